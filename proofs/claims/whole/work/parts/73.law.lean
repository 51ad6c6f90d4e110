set_option maxHeartbeats 4000000 in
set_option maxRecDepth 100000 in
theorem c_L_addGround (l : Launch) (hflags : l.stackTraces = false) (g : xg) (gl : ClassId × ClassId) (sz : Nat) (aR aG aP aH aY aT aS aF aX aGn aGw aGs aO : Nat) (pr tk tol hou kn rgs nn nw : Int) (nd wk : Int → Int) (lo : Nat → Int64) (hkn : 0 ≤ kn ∧ kn ≤ 200) (hr_rgs : iR rgs) (hr_nn : iR nn) (hr_nw : iR nw) : Met l yL_addGround wsL_addGround { frames := 8, cells := 4, slots := 24, locals := 137 } (va_Pc [.ref aR, .int (iI rgs), .int (iI nn), .int (iI nw), .ref aO] (xBL g gl [(aR, .inr (10, [.ref aG, .ref aP, .ref aH, .ref aY, .ref aT, .ref aS, .ref aF, .ref aX, .int (iI pr), .int (iI tk), .int (iI tol), .int (iI hou)])), (aG, .inr (3, [.ref aGn, .ref aGw, .ref aGs, .int (iI kn)])), (aGn, .inl (gI g, 200, .inl (ar nd))), (aGw, .inl (gI g, 200, .inl (ar wk))), (aO, .inl (gl.1, 1, .inr (.inl lo)))] sz)) (va_Qi (fun r u => r = iI ((fun (u : (Nat → Int64)) => agT kn rgs nn nw) u) ∧ (fun (u : (Nat → Int64)) => (agT kn rgs nn nw = 0 → u 0 = zL (kn + rgs))) u) (fun u t => xE g (va_A [(aR, .inr (10, [.ref aG, .ref aP, .ref aH, .ref aY, .ref aT, .ref aS, .ref aF, .ref aX, .int (iI pr), .int (iI tk), .int (iI tol), .int (iI hou)])), (aG, .inr (3, [.ref aGn, .ref aGw, .ref aGs, .int (iI kn)])), (aGn, .inl (gI g, 200, .inl (ar nd))), (aGw, .inl (gI g, 200, .inl (ar wk))), (aO, .inl (gl.1, 1, .inr (.inl lo)))] sz) ((fun (u : (Nat → Int64)) => [(aR, .inr (10, [.ref aG, .ref aP, .ref aH, .ref aY, .ref aT, .ref aS, .ref aF, .ref aX, .int (iI pr), .int (iI tk), .int (iI tol), .int (iI hou)])), (aG, .inr (3, [.ref aGn, .ref aGw, .ref aGs, .int (iI (if agT kn rgs nn nw = 0 then (kn + rgs) else kn))])), (aGn, .inl (gI g, 200, .inl (ar (if agT kn rgs nn nw = 0 then (fil nd kn (kn + rgs) nn) else nd)))), (aGw, .inl (gI g, 200, .inl (ar (if agT kn rgs nn nw = 0 then (fil wk kn (kn + rgs) nw) else wk)))), (aO, .inl (gl.1, 1, .inr (.inl u)))]) u) t) (va_A [(aR, .inr (10, [.ref aG, .ref aP, .ref aH, .ref aY, .ref aT, .ref aS, .ref aF, .ref aX, .int (iI pr), .int (iI tk), .int (iI tol), .int (iI hou)])), (aG, .inr (3, [.ref aGn, .ref aGw, .ref aGs, .int (iI kn)])), (aGn, .inl (gI g, 200, .inl (ar nd))), (aGw, .inl (gI g, 200, .inl (ar wk))), (aO, .inl (gl.1, 1, .inr (.inl lo)))] sz)) 4 24 (va_A [(aR, .inr (10, [.ref aG, .ref aP, .ref aH, .ref aY, .ref aT, .ref aS, .ref aF, .ref aX, .int (iI pr), .int (iI tk), .int (iI tol), .int (iI hou)])), (aG, .inr (3, [.ref aGn, .ref aGw, .ref aGs, .int (iI kn)])), (aGn, .inl (gI g, 200, .inl (ar nd))), (aGw, .inl (gI g, 200, .inl (ar wk))), (aO, .inl (gl.1, 1, .inr (.inl lo)))] sz) := by
  refine x_enterH (y := yL_addGround) (ws := wsL_addGround) (g := g) (sz := sz) (av := [.ref aR, .int (iI rgs), .int (iI nn), .int (iI nw), .ref aO]) (WS := [(aR, .inr (10, [.ref aG, .ref aP, .ref aH, .ref aY, .ref aT, .ref aS, .ref aF, .ref aX, .int (iI pr), .int (iI tk), .int (iI tol), .int (iI hou)])), (aG, .inr (3, [.ref aGn, .ref aGw, .ref aGs, .int (iI kn)])), (aGn, .inl (gI g, 200, .inl (ar nd))), (aGw, .inl (gI g, 200, .inl (ar wk))), (aO, .inl (gl.1, 1, .inr (.inl lo)))]) (cc := cL_addGround) (maxL := 6) (ret := some .int) (Qc := (fun A => (va_Qi (fun r u => r = iI ((fun (u : (Nat → Int64)) => agT kn rgs nn nw) u) ∧ (fun (u : (Nat → Int64)) => (agT kn rgs nn nw = 0 → u 0 = zL (kn + rgs))) u) (fun u t => xE g A ((fun (u : (Nat → Int64)) => [(aR, .inr (10, [.ref aG, .ref aP, .ref aH, .ref aY, .ref aT, .ref aS, .ref aF, .ref aX, .int (iI pr), .int (iI tk), .int (iI tol), .int (iI hou)])), (aG, .inr (3, [.ref aGn, .ref aGw, .ref aGs, .int (iI (if agT kn rgs nn nw = 0 then (kn + rgs) else kn))])), (aGn, .inl (gI g, 200, .inl (ar (if agT kn rgs nn nw = 0 then (fil nd kn (kn + rgs) nn) else nd)))), (aGw, .inl (gI g, 200, .inl (ar (if agT kn rgs nn nw = 0 then (fil wk kn (kn + rgs) nw) else wk)))), (aO, .inl (gl.1, 1, .inr (.inl u)))]) u) t) A))) (by decide) rfl (Nat.le_of_ble_eq_true rfl) ?_
  intro p e s m args below meth c A ls hx hb hr hml hown hts hlocks htab hL hC hP hD hS hA hl
  have hK := hC.1
  have hown : s.vm.findClass RL = some m.cls := hown
  have hl : lv_has ls 6 [(0, .ref aR), (1, .int (iI rgs)), (2, .int (iI nn)), (3, .int (iI nw)), (4, .ref aO)] := hl
  obtain ⟨H, hH⟩ : ∃ z, z = s.heap := ⟨_, rfl⟩
  obtain ⟨locs, hlo⟩ : ∃ z : List Loc, z = [] := ⟨_, rfl⟩
  obtain ⟨Q9, hQ9⟩ : ∃ z, z = MQ below (va_Qi (fun r u => r = iI ((fun (u : (Nat → Int64)) => agT kn rgs nn nw) u) ∧ (fun (u : (Nat → Int64)) => (agT kn rgs nn nw = 0 → u 0 = zL (kn + rgs))) u) (fun u t => xE g A ((fun (u : (Nat → Int64)) => [(aR, .inr (10, [.ref aG, .ref aP, .ref aH, .ref aY, .ref aT, .ref aS, .ref aF, .ref aX, .int (iI pr), .int (iI tk), .int (iI tol), .int (iI hou)])), (aG, .inr (3, [.ref aGn, .ref aGw, .ref aGs, .int (iI (if agT kn rgs nn nw = 0 then (kn + rgs) else kn))])), (aGn, .inl (gI g, 200, .inl (ar (if agT kn rgs nn nw = 0 then (fil nd kn (kn + rgs) nn) else nd)))), (aGw, .inl (gI g, 200, .inl (ar (if agT kn rgs nn nw = 0 then (fil wk kn (kn + rgs) nw) else wk)))), (aO, .inl (gl.1, 1, .inr (.inl u)))]) u) t) A) args s 4 24 A := ⟨_, rfl⟩
  have hP : va_P (gD g) vwCl [(aR, .inr (10, [.ref aG, .ref aP, .ref aH, .ref aY, .ref aT, .ref aS, .ref aF, .ref aX, .int (iI pr), .int (iI tk), .int (iI tol), .int (iI hou)])), (aG, .inr (3, [.ref aGn, .ref aGw, .ref aGs, .int (iI kn)])), (aGn, .inl (gI g, 200, .inl (ar nd))), (aGw, .inl (gI g, 200, .inl (ar wk))), (aO, .inl (gl.1, 1, .inr (.inl lo)))] H := by rw [hH]; exact hP
  have hS : va_S A s.heap H locs := by rw [hH, hlo]; exact hS
  have goal_ : W p l e { frames := 8, cells := 4, slots := 24, locals := 137 } s m args below meth c H locs 0 0 Q9 (F0 m 0 ls []) := by
    clear hH hlo
    refine lv_aload hx hb dL_addGround_0 (lv_at hl 4 rfl) ?_
    refine x_iconst hx hb dL_addGround_2 ?_
    refine lv_aload_n hx hb dL_addGround_3 rfl (lv_at hl 0 rfl) ?_
    refine lv_iload_n hx hb dL_addGround_4 rfl (lv_at hl 1 rfl) ?_
    refine lv_iload_n hx hb dL_addGround_5 rfl (lv_at hl 2 rfl) ?_
    refine lv_iload_n hx hb dL_addGround_6 rfl (lv_at hl 3 rfl) ?_
    refine x_calliX (S := Unit) (SX := Unit) (wc := [(aR, .inr (10, [.ref aG, .ref aP, .ref aH, .ref aY, .ref aT, .ref aS, .ref aF, .ref aX, .int (iI pr), .int (iI tk), .int (iI tol), .int (iI hou)])), (aG, .inr (3, [.ref aGn, .ref aGw, .ref aGs, .int (iI kn)])), (aGn, .inl (gI g, 200, .inl (ar nd))), (aGw, .inl (gI g, 200, .inl (ar wk)))]) (wr := [(aO, .inl (gl.1, 1, .inr (.inl lo)))]) hC hP hD hS hA [0, 1, 2, 3] [4] [1, 2, 3, 4, 0] rfl rfl (fun hpre => vx_runV (As := [.int (iI rgs), .int (iI nn), .int (iI nw)]) (rest := [.int (iI 0), .ref aO]) ⟨hx, hb, hml, hown, hts⟩ (c_X8_addGround l hflags g H.size aR aG aP aH aY aT aS aF aX aGn aGw aGs pr tk tol hou kn rgs nn nw nd wk (by first | (first | assumption | omega | exact bnd_up (by assumption) (by omega) (by omega)) | fail "q8") (by first | (first | assumption | omega | exact bnd_up (by assumption) (by omega) (by omega)) | fail "q8") (by first | (first | assumption | omega | exact bnd_up (by assumption) (by omega) (by omega)) | fail "q8") (by first | (first | assumption | omega | exact bnd_up (by assumption) (by omega) (by omega)) | fail "q8")) (cwV 3 hts gL_addGround_X8_addGround rfl rfl rfl (by decide +kernel) ⟨Nat.le_of_ble_eq_true rfl, Nat.le_of_ble_eq_true rfl⟩) ⟨xB_blind, va_recv hK hP (ci := 10) (q0 := 0) rfl rfl, hpre _⟩ rfl rfl hl.1 rfl (lv_room (Nat.le_of_ble_eq_true rfl)) dL_addGround_7 ⟨Nat.le_of_ble_eq_true rfl, Nat.le_of_ble_eq_true rfl⟩) (fun (u : Unit) => [(aR, .inr (10, [.ref aG, .ref aP, .ref aH, .ref aY, .ref aT, .ref aS, .ref aF, .ref aX, .int (iI pr), .int (iI tk), .int (iI tol), .int (iI hou)])), (aG, .inr (3, [.ref aGn, .ref aGw, .ref aGs, .int (iI (kn + rgs))])), (aGn, .inl (gI g, 200, .inl (ar (fil nd kn (kn + rgs) nn)))), (aGw, .inl (gI g, 200, .inl (ar (fil wk kn (kn + rgs) nw)))), (aO, .inl (gl.1, 1, .inr (.inl lo)))]) (fun (u : Unit) => ([(aR, .inr (10, [.ref aG, .ref aP, .ref aH, .ref aY, .ref aT, .ref aS, .ref aF, .ref aX, .int (iI pr), .int (iI tk), .int (iI tol), .int (iI hou)])), (aG, .inr (3, [.ref aGn, .ref aGw, .ref aGs, .int (iI kn)])), (aGn, .inl (gI g, 200, .inl (ar nd))), (aGw, .inl (gI g, 200, .inl (ar wk))), (aO, .inl (gl.1, 1, .inr (.inl lo)))] : va_W)) rfl rfl (by decide) (fun _ => rfl) (fun _ => rfl) rfl (fun E ce q9 u H locs hXP hPX hP hD hS hcell hv9 hcl => ?_) (fun u v_1 H locs hv_1 pv_1 hP hD hS => ?_)
    · skip
      have hP : va_P (gD g) vwCl [(aR, .inr (10, [.ref aG, .ref aP, .ref aH, .ref aY, .ref aT, .ref aS, .ref aF, .ref aX, .int (iI pr), .int (iI tk), .int (iI tol), .int (iI hou)])), (aG, .inr (3, [.ref aGn, .ref aGw, .ref aGs, .int (iI kn)])), (aGn, .inl (gI g, 200, .inl (ar nd))), (aGw, .inl (gI g, 200, .inl (ar wk))), (aO, .inl (gl.1, 1, .inr (.inl lo)))] H := hP
      have hD : va_D A [(aR, .inr (10, [.ref aG, .ref aP, .ref aH, .ref aY, .ref aT, .ref aS, .ref aF, .ref aX, .int (iI pr), .int (iI tk), .int (iI tol), .int (iI hou)])), (aG, .inr (3, [.ref aGn, .ref aGw, .ref aGs, .int (iI kn)])), (aGn, .inl (gI g, 200, .inl (ar nd))), (aGw, .inl (gI g, 200, .inl (ar wk))), (aO, .inl (gl.1, 1, .inr (.inl lo)))] := hD
      rcases hPX with ⟨hE, hp⟩ | ⟨hE, hp⟩
      · skip
        have hp : agT kn rgs nn nw = 1 := hp
        subst hE
        refine vx_catch (E := "java/lang/IllegalArgumentException") (name := "java/lang/IllegalArgumentException") hown [] ⟨0, 12, 15, 13⟩ [⟨0, 12, 19, 15⟩] (by rw [htab]; rfl) (fun z hz => by cases hz) (by decide) (by decide) (hts (.classLink RL 13 "java/lang/IllegalArgumentException") (List.mem_of_getElem? (i := 1) rfl)) (va_Nw.use rfl (hC.2.2.2.2.2.2.2.2.2.2.1 "java/lang/IllegalArgumentException" (List.mem_of_getElem? (i := 0) rfl))) hcell hv9 hcl ?_
        refine lv_astore (lv' := [(5, .ref q9), (0, .ref aR), (1, .int (iI rgs)), (2, .int (iI nn)), (3, .int (iI nw)), (4, .ref aO)]) hx hb dL_addGround_15 hl (by decide) rfl (fun ls hl => ?_)
        refine x_iconst hx hb dL_addGround_17 ?_
        have q_2 : (if agT kn rgs nn nw = 0 then (kn + rgs) else kn) = kn := by
          first
          | (
             first | rfl | (rw [if_pos (by omega)]) | (rw [if_neg (by omega)]) | (rw [if_pos (by omega)]; subst_vars; rfl))
          | fail "q9"
        have q_3 : (if agT kn rgs nn nw = 0 then (fil nd kn (kn + rgs) nn) else nd) = nd := by
          first
          | (
             first | rfl | (rw [if_pos (by omega)]) | (rw [if_neg (by omega)]) | (rw [if_pos (by omega)]; subst_vars; rfl))
          | fail "q9"
        have q_4 : (if agT kn rgs nn nw = 0 then (fil wk kn (kn + rgs) nw) else wk) = wk := by
          first
          | (
             first | rfl | (rw [if_pos (by omega)]) | (rw [if_neg (by omega)]) | (rw [if_pos (by omega)]; subst_vars; rfl))
          | fail "q9"
        have hw_5 := (congr (congr (congrArg (fun (z0 : Int) (z1 : Int → Int) (z2 : Int → Int) => ([(aR, .inr (10, [.ref aG, .ref aP, .ref aH, .ref aY, .ref aT, .ref aS, .ref aF, .ref aX, .int (iI pr), .int (iI tk), .int (iI tol), .int (iI hou)])), (aG, .inr (3, [.ref aGn, .ref aGw, .ref aGs, .int (iI z0)])), (aGn, .inl (gI g, 200, .inl (ar z1))), (aGw, .inl (gI g, 200, .inl (ar z2))), (aO, .inl (gl.1, 1, .inr (.inl lo)))] : va_W)) q_2.symm) q_3.symm) q_4.symm)
        rw [hQ9]
        exact x_iret hx hb hr hlocks hP hD hS (S := (Nat → Int64)) rfl dL_addGround_18 lo (by
            first
            | (
               first | omega | (subst_vars; omega))
            | fail "q9") (by
            first
            | (
               intro h0
               first | (exfalso; omega) | ((try dsimp only); rw [zl_up]; subst_vars; rfl) | ((try dsimp only); rw [zl_up]; congr 1))
            | fail "q9") hw_5 (Nat.le_of_ble_eq_true rfl) (Nat.le_of_ble_eq_true rfl)
      · skip
        have hp : agT kn rgs nn nw = 2 := hp
        subst hE
        refine vx_catch (E := "java/lang/IllegalStateException") (name := "java/lang/IllegalStateException") hown [⟨0, 12, 15, 13⟩] ⟨0, 12, 19, 15⟩ [] (by rw [htab]; rfl) (fun z hz => by rcases List.mem_cons.mp hz with rfl | hz; exact Or.inr ⟨by decide, "java/lang/IllegalArgumentException", (hts (.classLink RL 13 "java/lang/IllegalArgumentException") (List.mem_of_getElem? (i := 1) rfl)), hL.2 ("java/lang/IllegalStateException", "java/lang/IllegalArgumentException") (List.mem_of_getElem? (i := 5) (by decide +kernel))⟩; cases hz) (by decide) (by decide) (hts (.classLink RL 15 "java/lang/IllegalStateException") (List.mem_of_getElem? (i := 2) rfl)) (va_Nw.use rfl (hC.2.2.2.2.2.2.2.2.2.2.1 "java/lang/IllegalStateException" (List.mem_of_getElem? (i := 1) rfl))) hcell hv9 hcl ?_
        refine lv_astore (lv' := [(5, .ref q9), (0, .ref aR), (1, .int (iI rgs)), (2, .int (iI nn)), (3, .int (iI nw)), (4, .ref aO)]) hx hb dL_addGround_19 hl (by decide) rfl (fun ls hl => ?_)
        refine x_iconst hx hb dL_addGround_21 ?_
        have q_6 : (if agT kn rgs nn nw = 0 then (kn + rgs) else kn) = kn := by
          first
          | (
             first | rfl | (rw [if_pos (by omega)]) | (rw [if_neg (by omega)]) | (rw [if_pos (by omega)]; subst_vars; rfl))
          | fail "q9"
        have q_7 : (if agT kn rgs nn nw = 0 then (fil nd kn (kn + rgs) nn) else nd) = nd := by
          first
          | (
             first | rfl | (rw [if_pos (by omega)]) | (rw [if_neg (by omega)]) | (rw [if_pos (by omega)]; subst_vars; rfl))
          | fail "q9"
        have q_8 : (if agT kn rgs nn nw = 0 then (fil wk kn (kn + rgs) nw) else wk) = wk := by
          first
          | (
             first | rfl | (rw [if_pos (by omega)]) | (rw [if_neg (by omega)]) | (rw [if_pos (by omega)]; subst_vars; rfl))
          | fail "q9"
        have hw_9 := (congr (congr (congrArg (fun (z0 : Int) (z1 : Int → Int) (z2 : Int → Int) => ([(aR, .inr (10, [.ref aG, .ref aP, .ref aH, .ref aY, .ref aT, .ref aS, .ref aF, .ref aX, .int (iI pr), .int (iI tk), .int (iI tol), .int (iI hou)])), (aG, .inr (3, [.ref aGn, .ref aGw, .ref aGs, .int (iI z0)])), (aGn, .inl (gI g, 200, .inl (ar z1))), (aGw, .inl (gI g, 200, .inl (ar z2))), (aO, .inl (gl.1, 1, .inr (.inl lo)))] : va_W)) q_6.symm) q_7.symm) q_8.symm)
        rw [hQ9]
        exact x_iret hx hb hr hlocks hP hD hS (S := (Nat → Int64)) rfl dL_addGround_22 lo (by
            first
            | (
               first | omega | (subst_vars; omega))
            | fail "q9") (by
            first
            | (
               intro h0
               first | (exfalso; omega) | ((try dsimp only); rw [zl_up]; subst_vars; rfl) | ((try dsimp only); rw [zl_up]; congr 1))
            | fail "q9") hw_9 (Nat.le_of_ble_eq_true rfl) (Nat.le_of_ble_eq_true rfl)
    · skip
      have hP : va_P (gD g) vwCl [(aR, .inr (10, [.ref aG, .ref aP, .ref aH, .ref aY, .ref aT, .ref aS, .ref aF, .ref aX, .int (iI pr), .int (iI tk), .int (iI tol), .int (iI hou)])), (aG, .inr (3, [.ref aGn, .ref aGw, .ref aGs, .int (iI (kn + rgs))])), (aGn, .inl (gI g, 200, .inl (ar (fil nd kn (kn + rgs) nn)))), (aGw, .inl (gI g, 200, .inl (ar (fil wk kn (kn + rgs) nw)))), (aO, .inl (gl.1, 1, .inr (.inl lo)))] H := hP
      have hD : va_D A [(aR, .inr (10, [.ref aG, .ref aP, .ref aH, .ref aY, .ref aT, .ref aS, .ref aF, .ref aX, .int (iI pr), .int (iI tk), .int (iI tol), .int (iI hou)])), (aG, .inr (3, [.ref aGn, .ref aGw, .ref aGs, .int (iI (kn + rgs))])), (aGn, .inl (gI g, 200, .inl (ar (fil nd kn (kn + rgs) nn)))), (aGw, .inl (gI g, 200, .inl (ar (fil wk kn (kn + rgs) nw)))), (aO, .inl (gl.1, 1, .inr (.inl lo)))] := hD
      have hv_1 : v_1 = kn + rgs := hv_1
      obtain ⟨tv_1, pv_1⟩ := pv_1
      have tv_1 : agT kn rgs nn nw = 0 := tv_1
      refine x_i2z hx hb dL_addGround_10 ?_
      refine va_last hx hb hL.1 hP hD hS 4 0 rfl rfl zl_in dL_addGround_11 (fun H locs hP hD hS => ?_)
      have hP : va_P (gD g) vwCl [(aR, .inr (10, [.ref aG, .ref aP, .ref aH, .ref aY, .ref aT, .ref aS, .ref aF, .ref aX, .int (iI pr), .int (iI tk), .int (iI tol), .int (iI hou)])), (aG, .inr (3, [.ref aGn, .ref aGw, .ref aGs, .int (iI (kn + rgs))])), (aGn, .inl (gI g, 200, .inl (ar (fil nd kn (kn + rgs) nn)))), (aGw, .inl (gI g, 200, .inl (ar (fil wk kn (kn + rgs) nw)))), (aO, .inl (gl.1, 1, .inr (.inl (vp_updL lo (iI 0).toNatClampNeg (zL v_1)))))] H := hP
      have hD : va_D A [(aR, .inr (10, [.ref aG, .ref aP, .ref aH, .ref aY, .ref aT, .ref aS, .ref aF, .ref aX, .int (iI pr), .int (iI tk), .int (iI tol), .int (iI hou)])), (aG, .inr (3, [.ref aGn, .ref aGw, .ref aGs, .int (iI (kn + rgs))])), (aGn, .inl (gI g, 200, .inl (ar (fil nd kn (kn + rgs) nn)))), (aGw, .inl (gI g, 200, .inl (ar (fil wk kn (kn + rgs) nw)))), (aO, .inl (gl.1, 1, .inr (.inl (vp_updL lo (iI 0).toNatClampNeg (zL v_1)))))] := hD
      refine lv_goto (tgt := 23) hx hb dL_addGround_12 (by decide) ?_
      refine x_iconst hx hb dL_addGround_23 ?_
      have q_10 : (if agT kn rgs nn nw = 0 then (kn + rgs) else kn) = (kn + rgs) := by
        first
        | (
           first | rfl | (rw [if_pos (by omega)]) | (rw [if_neg (by omega)]) | (rw [if_pos (by omega)]; subst_vars; rfl))
        | fail "q9"
      have q_11 : (if agT kn rgs nn nw = 0 then (fil nd kn (kn + rgs) nn) else nd) = (fil nd kn (kn + rgs) nn) := by
        first
        | (
           first | rfl | (rw [if_pos (by omega)]) | (rw [if_neg (by omega)]) | (rw [if_pos (by omega)]; subst_vars; rfl))
        | fail "q9"
      have q_12 : (if agT kn rgs nn nw = 0 then (fil wk kn (kn + rgs) nw) else wk) = (fil wk kn (kn + rgs) nw) := by
        first
        | (
           first | rfl | (rw [if_pos (by omega)]) | (rw [if_neg (by omega)]) | (rw [if_pos (by omega)]; subst_vars; rfl))
        | fail "q9"
      have hw_13 := (congr (congr (congrArg (fun (z0 : Int) (z1 : Int → Int) (z2 : Int → Int) => ([(aR, .inr (10, [.ref aG, .ref aP, .ref aH, .ref aY, .ref aT, .ref aS, .ref aF, .ref aX, .int (iI pr), .int (iI tk), .int (iI tol), .int (iI hou)])), (aG, .inr (3, [.ref aGn, .ref aGw, .ref aGs, .int (iI z0)])), (aGn, .inl (gI g, 200, .inl (ar z1))), (aGw, .inl (gI g, 200, .inl (ar z2))), (aO, .inl (gl.1, 1, .inr (.inl (vp_updL lo (iI 0).toNatClampNeg (zL v_1)))))] : va_W)) q_10.symm) q_11.symm) q_12.symm)
      rw [hQ9]
      exact x_iret hx hb hr hlocks hP hD hS (S := (Nat → Int64)) rfl dL_addGround_24 (vp_updL lo (iI 0).toNatClampNeg (zL v_1)) (by
          first
          | (
             first | omega | (subst_vars; omega))
          | fail "q9") (by
          first
          | (
             intro h0
             first | (exfalso; omega) | ((try dsimp only); rw [zl_up]; subst_vars; rfl) | ((try dsimp only); rw [zl_up]; congr 1))
          | fail "q9") hw_13 (Nat.le_of_ble_eq_true rfl) (Nat.le_of_ble_eq_true rfl)
  rw [hH, hlo, hQ9] at goal_
  exact goal_

set_option maxHeartbeats 4000000 in
set_option maxRecDepth 100000 in
theorem c_L_addCurve (l : Launch) (hflags : l.stackTraces = false) (g : xg) (gl : ClassId × ClassId) (sz : Nat) (aR aG aP aH aY aT aS aF aX aPx aPy aO : Nat) (pr tk tol hou pn rgs nx ny : Int) (bx byy : Int → Int) (lo : Nat → Int64) (hpn : 0 ≤ pn ∧ pn ≤ 200) (hr_rgs : iR rgs) (hr_nx : iR nx) (hr_ny : iR ny) : Met l yL_addCurve wsL_addCurve { frames := 8, cells := 4, slots := 24, locals := 137 } (va_Pc [.ref aR, .int (iI rgs), .int (iI nx), .int (iI ny), .ref aO] (xBL g gl [(aR, .inr (10, [.ref aG, .ref aP, .ref aH, .ref aY, .ref aT, .ref aS, .ref aF, .ref aX, .int (iI pr), .int (iI tk), .int (iI tol), .int (iI hou)])), (aP, .inr (5, [.ref aPx, .ref aPy, .int (iI pn)])), (aPx, .inl (gI g, 200, .inl (ar bx))), (aPy, .inl (gI g, 200, .inl (ar byy))), (aO, .inl (gl.1, 1, .inr (.inl lo)))] sz)) (va_Qi (fun r u => r = iI ((fun (u : (Nat → Int64)) => acT pn rgs nx ny) u) ∧ (fun (u : (Nat → Int64)) => (acT pn rgs nx ny = 0 → u 0 = zL (pn + rgs))) u) (fun u t => xE g (va_A [(aR, .inr (10, [.ref aG, .ref aP, .ref aH, .ref aY, .ref aT, .ref aS, .ref aF, .ref aX, .int (iI pr), .int (iI tk), .int (iI tol), .int (iI hou)])), (aP, .inr (5, [.ref aPx, .ref aPy, .int (iI pn)])), (aPx, .inl (gI g, 200, .inl (ar bx))), (aPy, .inl (gI g, 200, .inl (ar byy))), (aO, .inl (gl.1, 1, .inr (.inl lo)))] sz) ((fun (u : (Nat → Int64)) => [(aR, .inr (10, [.ref aG, .ref aP, .ref aH, .ref aY, .ref aT, .ref aS, .ref aF, .ref aX, .int (iI pr), .int (iI tk), .int (iI tol), .int (iI hou)])), (aP, .inr (5, [.ref aPx, .ref aPy, .int (iI (if acT pn rgs nx ny = 0 then (pn + rgs) else pn))])), (aPx, .inl (gI g, 200, .inl (ar (if acT pn rgs nx ny = 0 then (fil bx pn (pn + rgs) nx) else bx)))), (aPy, .inl (gI g, 200, .inl (ar (if acT pn rgs nx ny = 0 then (fil byy pn (pn + rgs) ny) else byy)))), (aO, .inl (gl.1, 1, .inr (.inl u)))]) u) t) (va_A [(aR, .inr (10, [.ref aG, .ref aP, .ref aH, .ref aY, .ref aT, .ref aS, .ref aF, .ref aX, .int (iI pr), .int (iI tk), .int (iI tol), .int (iI hou)])), (aP, .inr (5, [.ref aPx, .ref aPy, .int (iI pn)])), (aPx, .inl (gI g, 200, .inl (ar bx))), (aPy, .inl (gI g, 200, .inl (ar byy))), (aO, .inl (gl.1, 1, .inr (.inl lo)))] sz)) 4 24 (va_A [(aR, .inr (10, [.ref aG, .ref aP, .ref aH, .ref aY, .ref aT, .ref aS, .ref aF, .ref aX, .int (iI pr), .int (iI tk), .int (iI tol), .int (iI hou)])), (aP, .inr (5, [.ref aPx, .ref aPy, .int (iI pn)])), (aPx, .inl (gI g, 200, .inl (ar bx))), (aPy, .inl (gI g, 200, .inl (ar byy))), (aO, .inl (gl.1, 1, .inr (.inl lo)))] sz) := by
  refine x_enterH (y := yL_addCurve) (ws := wsL_addCurve) (g := g) (sz := sz) (av := [.ref aR, .int (iI rgs), .int (iI nx), .int (iI ny), .ref aO]) (WS := [(aR, .inr (10, [.ref aG, .ref aP, .ref aH, .ref aY, .ref aT, .ref aS, .ref aF, .ref aX, .int (iI pr), .int (iI tk), .int (iI tol), .int (iI hou)])), (aP, .inr (5, [.ref aPx, .ref aPy, .int (iI pn)])), (aPx, .inl (gI g, 200, .inl (ar bx))), (aPy, .inl (gI g, 200, .inl (ar byy))), (aO, .inl (gl.1, 1, .inr (.inl lo)))]) (cc := cL_addCurve) (maxL := 6) (ret := some .int) (Qc := (fun A => (va_Qi (fun r u => r = iI ((fun (u : (Nat → Int64)) => acT pn rgs nx ny) u) ∧ (fun (u : (Nat → Int64)) => (acT pn rgs nx ny = 0 → u 0 = zL (pn + rgs))) u) (fun u t => xE g A ((fun (u : (Nat → Int64)) => [(aR, .inr (10, [.ref aG, .ref aP, .ref aH, .ref aY, .ref aT, .ref aS, .ref aF, .ref aX, .int (iI pr), .int (iI tk), .int (iI tol), .int (iI hou)])), (aP, .inr (5, [.ref aPx, .ref aPy, .int (iI (if acT pn rgs nx ny = 0 then (pn + rgs) else pn))])), (aPx, .inl (gI g, 200, .inl (ar (if acT pn rgs nx ny = 0 then (fil bx pn (pn + rgs) nx) else bx)))), (aPy, .inl (gI g, 200, .inl (ar (if acT pn rgs nx ny = 0 then (fil byy pn (pn + rgs) ny) else byy)))), (aO, .inl (gl.1, 1, .inr (.inl u)))]) u) t) A))) (by decide) rfl (Nat.le_of_ble_eq_true rfl) ?_
  intro p e s m args below meth c A ls hx hb hr hml hown hts hlocks htab hL hC hP hD hS hA hl
  have hK := hC.1
  have hown : s.vm.findClass RL = some m.cls := hown
  have hl : lv_has ls 6 [(0, .ref aR), (1, .int (iI rgs)), (2, .int (iI nx)), (3, .int (iI ny)), (4, .ref aO)] := hl
  obtain ⟨H, hH⟩ : ∃ z, z = s.heap := ⟨_, rfl⟩
  obtain ⟨locs, hlo⟩ : ∃ z : List Loc, z = [] := ⟨_, rfl⟩
  obtain ⟨Q9, hQ9⟩ : ∃ z, z = MQ below (va_Qi (fun r u => r = iI ((fun (u : (Nat → Int64)) => acT pn rgs nx ny) u) ∧ (fun (u : (Nat → Int64)) => (acT pn rgs nx ny = 0 → u 0 = zL (pn + rgs))) u) (fun u t => xE g A ((fun (u : (Nat → Int64)) => [(aR, .inr (10, [.ref aG, .ref aP, .ref aH, .ref aY, .ref aT, .ref aS, .ref aF, .ref aX, .int (iI pr), .int (iI tk), .int (iI tol), .int (iI hou)])), (aP, .inr (5, [.ref aPx, .ref aPy, .int (iI (if acT pn rgs nx ny = 0 then (pn + rgs) else pn))])), (aPx, .inl (gI g, 200, .inl (ar (if acT pn rgs nx ny = 0 then (fil bx pn (pn + rgs) nx) else bx)))), (aPy, .inl (gI g, 200, .inl (ar (if acT pn rgs nx ny = 0 then (fil byy pn (pn + rgs) ny) else byy)))), (aO, .inl (gl.1, 1, .inr (.inl u)))]) u) t) A) args s 4 24 A := ⟨_, rfl⟩
  have hP : va_P (gD g) vwCl [(aR, .inr (10, [.ref aG, .ref aP, .ref aH, .ref aY, .ref aT, .ref aS, .ref aF, .ref aX, .int (iI pr), .int (iI tk), .int (iI tol), .int (iI hou)])), (aP, .inr (5, [.ref aPx, .ref aPy, .int (iI pn)])), (aPx, .inl (gI g, 200, .inl (ar bx))), (aPy, .inl (gI g, 200, .inl (ar byy))), (aO, .inl (gl.1, 1, .inr (.inl lo)))] H := by rw [hH]; exact hP
  have hS : va_S A s.heap H locs := by rw [hH, hlo]; exact hS
  have goal_ : W p l e { frames := 8, cells := 4, slots := 24, locals := 137 } s m args below meth c H locs 0 0 Q9 (F0 m 0 ls []) := by
    clear hH hlo
    refine lv_aload hx hb dL_addCurve_0 (lv_at hl 4 rfl) ?_
    refine x_iconst hx hb dL_addCurve_2 ?_
    refine lv_aload_n hx hb dL_addCurve_3 rfl (lv_at hl 0 rfl) ?_
    refine lv_iload_n hx hb dL_addCurve_4 rfl (lv_at hl 1 rfl) ?_
    refine lv_iload_n hx hb dL_addCurve_5 rfl (lv_at hl 2 rfl) ?_
    refine lv_iload_n hx hb dL_addCurve_6 rfl (lv_at hl 3 rfl) ?_
    refine x_calliX (S := Unit) (SX := Unit) (wc := [(aR, .inr (10, [.ref aG, .ref aP, .ref aH, .ref aY, .ref aT, .ref aS, .ref aF, .ref aX, .int (iI pr), .int (iI tk), .int (iI tol), .int (iI hou)])), (aP, .inr (5, [.ref aPx, .ref aPy, .int (iI pn)])), (aPx, .inl (gI g, 200, .inl (ar bx))), (aPy, .inl (gI g, 200, .inl (ar byy)))]) (wr := [(aO, .inl (gl.1, 1, .inr (.inl lo)))]) hC hP hD hS hA [0, 1, 2, 3] [4] [1, 2, 3, 4, 0] rfl rfl (fun hpre => vx_runV (As := [.int (iI rgs), .int (iI nx), .int (iI ny)]) (rest := [.int (iI 0), .ref aO]) ⟨hx, hb, hml, hown, hts⟩ (c_X8_addCurve l hflags g H.size aR aG aP aH aY aT aS aF aX aPx aPy pr tk tol hou pn rgs nx ny bx byy (by first | (first | assumption | omega | exact bnd_up (by assumption) (by omega) (by omega)) | fail "q8") (by first | (first | assumption | omega | exact bnd_up (by assumption) (by omega) (by omega)) | fail "q8") (by first | (first | assumption | omega | exact bnd_up (by assumption) (by omega) (by omega)) | fail "q8") (by first | (first | assumption | omega | exact bnd_up (by assumption) (by omega) (by omega)) | fail "q8")) (cwV 3 hts gL_addCurve_X8_addCurve rfl rfl rfl (by decide +kernel) ⟨Nat.le_of_ble_eq_true rfl, Nat.le_of_ble_eq_true rfl⟩) ⟨xB_blind, va_recv hK hP (ci := 10) (q0 := 0) rfl rfl, hpre _⟩ rfl rfl hl.1 rfl (lv_room (Nat.le_of_ble_eq_true rfl)) dL_addCurve_7 ⟨Nat.le_of_ble_eq_true rfl, Nat.le_of_ble_eq_true rfl⟩) (fun (u : Unit) => [(aR, .inr (10, [.ref aG, .ref aP, .ref aH, .ref aY, .ref aT, .ref aS, .ref aF, .ref aX, .int (iI pr), .int (iI tk), .int (iI tol), .int (iI hou)])), (aP, .inr (5, [.ref aPx, .ref aPy, .int (iI (pn + rgs))])), (aPx, .inl (gI g, 200, .inl (ar (fil bx pn (pn + rgs) nx)))), (aPy, .inl (gI g, 200, .inl (ar (fil byy pn (pn + rgs) ny)))), (aO, .inl (gl.1, 1, .inr (.inl lo)))]) (fun (u : Unit) => ([(aR, .inr (10, [.ref aG, .ref aP, .ref aH, .ref aY, .ref aT, .ref aS, .ref aF, .ref aX, .int (iI pr), .int (iI tk), .int (iI tol), .int (iI hou)])), (aP, .inr (5, [.ref aPx, .ref aPy, .int (iI pn)])), (aPx, .inl (gI g, 200, .inl (ar bx))), (aPy, .inl (gI g, 200, .inl (ar byy))), (aO, .inl (gl.1, 1, .inr (.inl lo)))] : va_W)) rfl rfl (by decide) (fun _ => rfl) (fun _ => rfl) rfl (fun E ce q9 u H locs hXP hPX hP hD hS hcell hv9 hcl => ?_) (fun u v_1 H locs hv_1 pv_1 hP hD hS => ?_)
    · skip
      have hP : va_P (gD g) vwCl [(aR, .inr (10, [.ref aG, .ref aP, .ref aH, .ref aY, .ref aT, .ref aS, .ref aF, .ref aX, .int (iI pr), .int (iI tk), .int (iI tol), .int (iI hou)])), (aP, .inr (5, [.ref aPx, .ref aPy, .int (iI pn)])), (aPx, .inl (gI g, 200, .inl (ar bx))), (aPy, .inl (gI g, 200, .inl (ar byy))), (aO, .inl (gl.1, 1, .inr (.inl lo)))] H := hP
      have hD : va_D A [(aR, .inr (10, [.ref aG, .ref aP, .ref aH, .ref aY, .ref aT, .ref aS, .ref aF, .ref aX, .int (iI pr), .int (iI tk), .int (iI tol), .int (iI hou)])), (aP, .inr (5, [.ref aPx, .ref aPy, .int (iI pn)])), (aPx, .inl (gI g, 200, .inl (ar bx))), (aPy, .inl (gI g, 200, .inl (ar byy))), (aO, .inl (gl.1, 1, .inr (.inl lo)))] := hD
      rcases hPX with ⟨hE, hp⟩ | ⟨hE, hp⟩
      · skip
        have hp : acT pn rgs nx ny = 1 := hp
        subst hE
        refine vx_catch (E := "java/lang/IllegalArgumentException") (name := "java/lang/IllegalArgumentException") hown [] ⟨0, 12, 15, 13⟩ [⟨0, 12, 19, 15⟩] (by rw [htab]; rfl) (fun z hz => by cases hz) (by decide) (by decide) (hts (.classLink RL 13 "java/lang/IllegalArgumentException") (List.mem_of_getElem? (i := 1) rfl)) (va_Nw.use rfl (hC.2.2.2.2.2.2.2.2.2.2.1 "java/lang/IllegalArgumentException" (List.mem_of_getElem? (i := 0) rfl))) hcell hv9 hcl ?_
        refine lv_astore (lv' := [(5, .ref q9), (0, .ref aR), (1, .int (iI rgs)), (2, .int (iI nx)), (3, .int (iI ny)), (4, .ref aO)]) hx hb dL_addCurve_15 hl (by decide) rfl (fun ls hl => ?_)
        refine x_iconst hx hb dL_addCurve_17 ?_
        have q_2 : (if acT pn rgs nx ny = 0 then (pn + rgs) else pn) = pn := by
          first
          | (
             first | rfl | (rw [if_pos (by omega)]) | (rw [if_neg (by omega)]) | (rw [if_pos (by omega)]; subst_vars; rfl))
          | fail "q9"
        have q_3 : (if acT pn rgs nx ny = 0 then (fil bx pn (pn + rgs) nx) else bx) = bx := by
          first
          | (
             first | rfl | (rw [if_pos (by omega)]) | (rw [if_neg (by omega)]) | (rw [if_pos (by omega)]; subst_vars; rfl))
          | fail "q9"
        have q_4 : (if acT pn rgs nx ny = 0 then (fil byy pn (pn + rgs) ny) else byy) = byy := by
          first
          | (
             first | rfl | (rw [if_pos (by omega)]) | (rw [if_neg (by omega)]) | (rw [if_pos (by omega)]; subst_vars; rfl))
          | fail "q9"
        have hw_5 := (congr (congr (congrArg (fun (z0 : Int) (z1 : Int → Int) (z2 : Int → Int) => ([(aR, .inr (10, [.ref aG, .ref aP, .ref aH, .ref aY, .ref aT, .ref aS, .ref aF, .ref aX, .int (iI pr), .int (iI tk), .int (iI tol), .int (iI hou)])), (aP, .inr (5, [.ref aPx, .ref aPy, .int (iI z0)])), (aPx, .inl (gI g, 200, .inl (ar z1))), (aPy, .inl (gI g, 200, .inl (ar z2))), (aO, .inl (gl.1, 1, .inr (.inl lo)))] : va_W)) q_2.symm) q_3.symm) q_4.symm)
        rw [hQ9]
        exact x_iret hx hb hr hlocks hP hD hS (S := (Nat → Int64)) rfl dL_addCurve_18 lo (by
            first
            | (
               first | omega | (subst_vars; omega))
            | fail "q9") (by
            first
            | (
               intro h0
               first | (exfalso; omega) | ((try dsimp only); rw [zl_up]; subst_vars; rfl) | ((try dsimp only); rw [zl_up]; congr 1))
            | fail "q9") hw_5 (Nat.le_of_ble_eq_true rfl) (Nat.le_of_ble_eq_true rfl)
      · skip
        have hp : acT pn rgs nx ny = 2 := hp
        subst hE
        refine vx_catch (E := "java/lang/IllegalStateException") (name := "java/lang/IllegalStateException") hown [⟨0, 12, 15, 13⟩] ⟨0, 12, 19, 15⟩ [] (by rw [htab]; rfl) (fun z hz => by rcases List.mem_cons.mp hz with rfl | hz; exact Or.inr ⟨by decide, "java/lang/IllegalArgumentException", (hts (.classLink RL 13 "java/lang/IllegalArgumentException") (List.mem_of_getElem? (i := 1) rfl)), hL.2 ("java/lang/IllegalStateException", "java/lang/IllegalArgumentException") (List.mem_of_getElem? (i := 5) (by decide +kernel))⟩; cases hz) (by decide) (by decide) (hts (.classLink RL 15 "java/lang/IllegalStateException") (List.mem_of_getElem? (i := 2) rfl)) (va_Nw.use rfl (hC.2.2.2.2.2.2.2.2.2.2.1 "java/lang/IllegalStateException" (List.mem_of_getElem? (i := 1) rfl))) hcell hv9 hcl ?_
        refine lv_astore (lv' := [(5, .ref q9), (0, .ref aR), (1, .int (iI rgs)), (2, .int (iI nx)), (3, .int (iI ny)), (4, .ref aO)]) hx hb dL_addCurve_19 hl (by decide) rfl (fun ls hl => ?_)
        refine x_iconst hx hb dL_addCurve_21 ?_
        have q_6 : (if acT pn rgs nx ny = 0 then (pn + rgs) else pn) = pn := by
          first
          | (
             first | rfl | (rw [if_pos (by omega)]) | (rw [if_neg (by omega)]) | (rw [if_pos (by omega)]; subst_vars; rfl))
          | fail "q9"
        have q_7 : (if acT pn rgs nx ny = 0 then (fil bx pn (pn + rgs) nx) else bx) = bx := by
          first
          | (
             first | rfl | (rw [if_pos (by omega)]) | (rw [if_neg (by omega)]) | (rw [if_pos (by omega)]; subst_vars; rfl))
          | fail "q9"
        have q_8 : (if acT pn rgs nx ny = 0 then (fil byy pn (pn + rgs) ny) else byy) = byy := by
          first
          | (
             first | rfl | (rw [if_pos (by omega)]) | (rw [if_neg (by omega)]) | (rw [if_pos (by omega)]; subst_vars; rfl))
          | fail "q9"
        have hw_9 := (congr (congr (congrArg (fun (z0 : Int) (z1 : Int → Int) (z2 : Int → Int) => ([(aR, .inr (10, [.ref aG, .ref aP, .ref aH, .ref aY, .ref aT, .ref aS, .ref aF, .ref aX, .int (iI pr), .int (iI tk), .int (iI tol), .int (iI hou)])), (aP, .inr (5, [.ref aPx, .ref aPy, .int (iI z0)])), (aPx, .inl (gI g, 200, .inl (ar z1))), (aPy, .inl (gI g, 200, .inl (ar z2))), (aO, .inl (gl.1, 1, .inr (.inl lo)))] : va_W)) q_6.symm) q_7.symm) q_8.symm)
        rw [hQ9]
        exact x_iret hx hb hr hlocks hP hD hS (S := (Nat → Int64)) rfl dL_addCurve_22 lo (by
            first
            | (
               first | omega | (subst_vars; omega))
            | fail "q9") (by
            first
            | (
               intro h0
               first | (exfalso; omega) | ((try dsimp only); rw [zl_up]; subst_vars; rfl) | ((try dsimp only); rw [zl_up]; congr 1))
            | fail "q9") hw_9 (Nat.le_of_ble_eq_true rfl) (Nat.le_of_ble_eq_true rfl)
    · skip
      have hP : va_P (gD g) vwCl [(aR, .inr (10, [.ref aG, .ref aP, .ref aH, .ref aY, .ref aT, .ref aS, .ref aF, .ref aX, .int (iI pr), .int (iI tk), .int (iI tol), .int (iI hou)])), (aP, .inr (5, [.ref aPx, .ref aPy, .int (iI (pn + rgs))])), (aPx, .inl (gI g, 200, .inl (ar (fil bx pn (pn + rgs) nx)))), (aPy, .inl (gI g, 200, .inl (ar (fil byy pn (pn + rgs) ny)))), (aO, .inl (gl.1, 1, .inr (.inl lo)))] H := hP
      have hD : va_D A [(aR, .inr (10, [.ref aG, .ref aP, .ref aH, .ref aY, .ref aT, .ref aS, .ref aF, .ref aX, .int (iI pr), .int (iI tk), .int (iI tol), .int (iI hou)])), (aP, .inr (5, [.ref aPx, .ref aPy, .int (iI (pn + rgs))])), (aPx, .inl (gI g, 200, .inl (ar (fil bx pn (pn + rgs) nx)))), (aPy, .inl (gI g, 200, .inl (ar (fil byy pn (pn + rgs) ny)))), (aO, .inl (gl.1, 1, .inr (.inl lo)))] := hD
      have hv_1 : v_1 = pn + rgs := hv_1
      obtain ⟨tv_1, pv_1⟩ := pv_1
      have tv_1 : acT pn rgs nx ny = 0 := tv_1
      refine x_i2z hx hb dL_addCurve_10 ?_
      refine va_last hx hb hL.1 hP hD hS 4 0 rfl rfl zl_in dL_addCurve_11 (fun H locs hP hD hS => ?_)
      have hP : va_P (gD g) vwCl [(aR, .inr (10, [.ref aG, .ref aP, .ref aH, .ref aY, .ref aT, .ref aS, .ref aF, .ref aX, .int (iI pr), .int (iI tk), .int (iI tol), .int (iI hou)])), (aP, .inr (5, [.ref aPx, .ref aPy, .int (iI (pn + rgs))])), (aPx, .inl (gI g, 200, .inl (ar (fil bx pn (pn + rgs) nx)))), (aPy, .inl (gI g, 200, .inl (ar (fil byy pn (pn + rgs) ny)))), (aO, .inl (gl.1, 1, .inr (.inl (vp_updL lo (iI 0).toNatClampNeg (zL v_1)))))] H := hP
      have hD : va_D A [(aR, .inr (10, [.ref aG, .ref aP, .ref aH, .ref aY, .ref aT, .ref aS, .ref aF, .ref aX, .int (iI pr), .int (iI tk), .int (iI tol), .int (iI hou)])), (aP, .inr (5, [.ref aPx, .ref aPy, .int (iI (pn + rgs))])), (aPx, .inl (gI g, 200, .inl (ar (fil bx pn (pn + rgs) nx)))), (aPy, .inl (gI g, 200, .inl (ar (fil byy pn (pn + rgs) ny)))), (aO, .inl (gl.1, 1, .inr (.inl (vp_updL lo (iI 0).toNatClampNeg (zL v_1)))))] := hD
      refine lv_goto (tgt := 23) hx hb dL_addCurve_12 (by decide) ?_
      refine x_iconst hx hb dL_addCurve_23 ?_
      have q_10 : (if acT pn rgs nx ny = 0 then (pn + rgs) else pn) = (pn + rgs) := by
        first
        | (
           first | rfl | (rw [if_pos (by omega)]) | (rw [if_neg (by omega)]) | (rw [if_pos (by omega)]; subst_vars; rfl))
        | fail "q9"
      have q_11 : (if acT pn rgs nx ny = 0 then (fil bx pn (pn + rgs) nx) else bx) = (fil bx pn (pn + rgs) nx) := by
        first
        | (
           first | rfl | (rw [if_pos (by omega)]) | (rw [if_neg (by omega)]) | (rw [if_pos (by omega)]; subst_vars; rfl))
        | fail "q9"
      have q_12 : (if acT pn rgs nx ny = 0 then (fil byy pn (pn + rgs) ny) else byy) = (fil byy pn (pn + rgs) ny) := by
        first
        | (
           first | rfl | (rw [if_pos (by omega)]) | (rw [if_neg (by omega)]) | (rw [if_pos (by omega)]; subst_vars; rfl))
        | fail "q9"
      have hw_13 := (congr (congr (congrArg (fun (z0 : Int) (z1 : Int → Int) (z2 : Int → Int) => ([(aR, .inr (10, [.ref aG, .ref aP, .ref aH, .ref aY, .ref aT, .ref aS, .ref aF, .ref aX, .int (iI pr), .int (iI tk), .int (iI tol), .int (iI hou)])), (aP, .inr (5, [.ref aPx, .ref aPy, .int (iI z0)])), (aPx, .inl (gI g, 200, .inl (ar z1))), (aPy, .inl (gI g, 200, .inl (ar z2))), (aO, .inl (gl.1, 1, .inr (.inl (vp_updL lo (iI 0).toNatClampNeg (zL v_1)))))] : va_W)) q_10.symm) q_11.symm) q_12.symm)
      rw [hQ9]
      exact x_iret hx hb hr hlocks hP hD hS (S := (Nat → Int64)) rfl dL_addCurve_24 (vp_updL lo (iI 0).toNatClampNeg (zL v_1)) (by
          first
          | (
             first | omega | (subst_vars; omega))
          | fail "q9") (by
          first
          | (
             intro h0
             first | (exfalso; omega) | ((try dsimp only); rw [zl_up]; subst_vars; rfl) | ((try dsimp only); rw [zl_up]; congr 1))
          | fail "q9") hw_13 (Nat.le_of_ble_eq_true rfl) (Nat.le_of_ble_eq_true rfl)
  rw [hH, hlo, hQ9] at goal_
  exact goal_

set_option maxHeartbeats 4000000 in
set_option maxRecDepth 100000 in
theorem c_L_needAt (l : Launch) (hflags : l.stackTraces = false) (g : xg) (gl : ClassId × ClassId) (sz : Nat) (aR aG aP aH aY aT aS aF aX aGn aGw aGs aO : Nat) (pr tk tol hou kn rg : Int) (nd : Int → Int) (lo : Nat → Int64) (hkn : 0 ≤ kn ∧ kn ≤ 200) (hb_nd : bnd nd 0 100) (hr_rg : iR rg) : Met l yL_needAt wsL_needAt { frames := 8, cells := 1, slots := 6, locals := 134 } (va_Pc [.ref aR, .int (iI rg), .ref aO] (xBL g gl [(aR, .inr (10, [.ref aG, .ref aP, .ref aH, .ref aY, .ref aT, .ref aS, .ref aF, .ref aX, .int (iI pr), .int (iI tk), .int (iI tol), .int (iI hou)])), (aG, .inr (3, [.ref aGn, .ref aGw, .ref aGs, .int (iI kn)])), (aGn, .inl (gI g, 200, .inl (ar nd))), (aO, .inl (gl.1, 1, .inr (.inl lo)))] sz)) (va_Qi (fun r u => r = iI ((fun (u : (Nat → Int64)) => rgT kn rg) u) ∧ (fun (u : (Nat → Int64)) => (rgT kn rg = 0 → u 0 = zL (gt0 kn nd rg))) u) (fun u t => xE g (va_A [(aR, .inr (10, [.ref aG, .ref aP, .ref aH, .ref aY, .ref aT, .ref aS, .ref aF, .ref aX, .int (iI pr), .int (iI tk), .int (iI tol), .int (iI hou)])), (aG, .inr (3, [.ref aGn, .ref aGw, .ref aGs, .int (iI kn)])), (aGn, .inl (gI g, 200, .inl (ar nd))), (aO, .inl (gl.1, 1, .inr (.inl lo)))] sz) ((fun (u : (Nat → Int64)) => [(aR, .inr (10, [.ref aG, .ref aP, .ref aH, .ref aY, .ref aT, .ref aS, .ref aF, .ref aX, .int (iI pr), .int (iI tk), .int (iI tol), .int (iI hou)])), (aG, .inr (3, [.ref aGn, .ref aGw, .ref aGs, .int (iI kn)])), (aGn, .inl (gI g, 200, .inl (ar nd))), (aO, .inl (gl.1, 1, .inr (.inl u)))]) u) t) (va_A [(aR, .inr (10, [.ref aG, .ref aP, .ref aH, .ref aY, .ref aT, .ref aS, .ref aF, .ref aX, .int (iI pr), .int (iI tk), .int (iI tol), .int (iI hou)])), (aG, .inr (3, [.ref aGn, .ref aGw, .ref aGs, .int (iI kn)])), (aGn, .inl (gI g, 200, .inl (ar nd))), (aO, .inl (gl.1, 1, .inr (.inl lo)))] sz)) 1 6 (va_A [(aR, .inr (10, [.ref aG, .ref aP, .ref aH, .ref aY, .ref aT, .ref aS, .ref aF, .ref aX, .int (iI pr), .int (iI tk), .int (iI tol), .int (iI hou)])), (aG, .inr (3, [.ref aGn, .ref aGw, .ref aGs, .int (iI kn)])), (aGn, .inl (gI g, 200, .inl (ar nd))), (aO, .inl (gl.1, 1, .inr (.inl lo)))] sz) := by
  refine x_enterH (y := yL_needAt) (ws := wsL_needAt) (g := g) (sz := sz) (av := [.ref aR, .int (iI rg), .ref aO]) (WS := [(aR, .inr (10, [.ref aG, .ref aP, .ref aH, .ref aY, .ref aT, .ref aS, .ref aF, .ref aX, .int (iI pr), .int (iI tk), .int (iI tol), .int (iI hou)])), (aG, .inr (3, [.ref aGn, .ref aGw, .ref aGs, .int (iI kn)])), (aGn, .inl (gI g, 200, .inl (ar nd))), (aO, .inl (gl.1, 1, .inr (.inl lo)))]) (cc := cL_needAt) (maxL := 4) (ret := some .int) (Qc := (fun A => (va_Qi (fun r u => r = iI ((fun (u : (Nat → Int64)) => rgT kn rg) u) ∧ (fun (u : (Nat → Int64)) => (rgT kn rg = 0 → u 0 = zL (gt0 kn nd rg))) u) (fun u t => xE g A ((fun (u : (Nat → Int64)) => [(aR, .inr (10, [.ref aG, .ref aP, .ref aH, .ref aY, .ref aT, .ref aS, .ref aF, .ref aX, .int (iI pr), .int (iI tk), .int (iI tol), .int (iI hou)])), (aG, .inr (3, [.ref aGn, .ref aGw, .ref aGs, .int (iI kn)])), (aGn, .inl (gI g, 200, .inl (ar nd))), (aO, .inl (gl.1, 1, .inr (.inl u)))]) u) t) A))) (by decide) rfl (Nat.le_of_ble_eq_true rfl) ?_
  intro p e s m args below meth c A ls hx hb hr hml hown hts hlocks htab hL hC hP hD hS hA hl
  have hK := hC.1
  have hown : s.vm.findClass RL = some m.cls := hown
  have hl : lv_has ls 4 [(0, .ref aR), (1, .int (iI rg)), (2, .ref aO)] := hl
  obtain ⟨H, hH⟩ : ∃ z, z = s.heap := ⟨_, rfl⟩
  obtain ⟨locs, hlo⟩ : ∃ z : List Loc, z = [] := ⟨_, rfl⟩
  obtain ⟨Q9, hQ9⟩ : ∃ z, z = MQ below (va_Qi (fun r u => r = iI ((fun (u : (Nat → Int64)) => rgT kn rg) u) ∧ (fun (u : (Nat → Int64)) => (rgT kn rg = 0 → u 0 = zL (gt0 kn nd rg))) u) (fun u t => xE g A ((fun (u : (Nat → Int64)) => [(aR, .inr (10, [.ref aG, .ref aP, .ref aH, .ref aY, .ref aT, .ref aS, .ref aF, .ref aX, .int (iI pr), .int (iI tk), .int (iI tol), .int (iI hou)])), (aG, .inr (3, [.ref aGn, .ref aGw, .ref aGs, .int (iI kn)])), (aGn, .inl (gI g, 200, .inl (ar nd))), (aO, .inl (gl.1, 1, .inr (.inl u)))]) u) t) A) args s 1 6 A := ⟨_, rfl⟩
  have hP : va_P (gD g) vwCl [(aR, .inr (10, [.ref aG, .ref aP, .ref aH, .ref aY, .ref aT, .ref aS, .ref aF, .ref aX, .int (iI pr), .int (iI tk), .int (iI tol), .int (iI hou)])), (aG, .inr (3, [.ref aGn, .ref aGw, .ref aGs, .int (iI kn)])), (aGn, .inl (gI g, 200, .inl (ar nd))), (aO, .inl (gl.1, 1, .inr (.inl lo)))] H := by rw [hH]; exact hP
  have hS : va_S A s.heap H locs := by rw [hH, hlo]; exact hS
  have goal_ : W p l e { frames := 8, cells := 1, slots := 6, locals := 134 } s m args below meth c H locs 0 0 Q9 (F0 m 0 ls []) := by
    clear hH hlo
    refine lv_aload_n hx hb dL_needAt_0 rfl (lv_at hl 2 rfl) ?_
    refine x_iconst hx hb dL_needAt_1 ?_
    refine lv_aload_n hx hb dL_needAt_2 rfl (lv_at hl 0 rfl) ?_
    refine lv_iload_n hx hb dL_needAt_3 rfl (lv_at hl 1 rfl) ?_
    refine x_calliX (S := Unit) (SX := Unit) (wc := [(aR, .inr (10, [.ref aG, .ref aP, .ref aH, .ref aY, .ref aT, .ref aS, .ref aF, .ref aX, .int (iI pr), .int (iI tk), .int (iI tol), .int (iI hou)])), (aG, .inr (3, [.ref aGn, .ref aGw, .ref aGs, .int (iI kn)])), (aGn, .inl (gI g, 200, .inl (ar nd)))]) (wr := [(aO, .inl (gl.1, 1, .inr (.inl lo)))]) hC hP hD hS hA [0, 1, 2] [3] [1, 2, 3, 0] rfl rfl (fun hpre => vx_runV (As := [.int (iI rg)]) (rest := [.int (iI 0), .ref aO]) ⟨hx, hb, hml, hown, hts⟩ (c_X8_needAt l hflags g H.size aR aG aP aH aY aT aS aF aX aGn aGw aGs pr tk tol hou kn rg nd (by first | (first | assumption | omega | exact bnd_up (by assumption) (by omega) (by omega)) | fail "q8") (by first | (first | assumption | omega | exact bnd_up (by assumption) (by omega) (by omega)) | fail "q8") (by first | (first | assumption | omega | exact bnd_up (by assumption) (by omega) (by omega)) | fail "q8")) (cwV 1 hts gL_needAt_X8_needAt rfl rfl rfl (by decide +kernel) ⟨Nat.le_of_ble_eq_true rfl, Nat.le_of_ble_eq_true rfl⟩) ⟨xB_blind, va_recv hK hP (ci := 10) (q0 := 0) rfl rfl, hpre _⟩ rfl rfl hl.1 rfl (lv_room (Nat.le_of_ble_eq_true rfl)) dL_needAt_4 ⟨Nat.le_of_ble_eq_true rfl, Nat.le_of_ble_eq_true rfl⟩) (fun (u : Unit) => [(aR, .inr (10, [.ref aG, .ref aP, .ref aH, .ref aY, .ref aT, .ref aS, .ref aF, .ref aX, .int (iI pr), .int (iI tk), .int (iI tol), .int (iI hou)])), (aG, .inr (3, [.ref aGn, .ref aGw, .ref aGs, .int (iI kn)])), (aGn, .inl (gI g, 200, .inl (ar nd))), (aO, .inl (gl.1, 1, .inr (.inl lo)))]) (fun (u : Unit) => ([(aR, .inr (10, [.ref aG, .ref aP, .ref aH, .ref aY, .ref aT, .ref aS, .ref aF, .ref aX, .int (iI pr), .int (iI tk), .int (iI tol), .int (iI hou)])), (aG, .inr (3, [.ref aGn, .ref aGw, .ref aGs, .int (iI kn)])), (aGn, .inl (gI g, 200, .inl (ar nd))), (aO, .inl (gl.1, 1, .inr (.inl lo)))] : va_W)) rfl rfl (by decide) (fun _ => rfl) (fun _ => rfl) rfl (fun E ce q9 u H locs hXP hPX hP hD hS hcell hv9 hcl => ?_) (fun u v_1 H locs hv_1 pv_1 hP hD hS => ?_)
    · skip
      have hP : va_P (gD g) vwCl [(aR, .inr (10, [.ref aG, .ref aP, .ref aH, .ref aY, .ref aT, .ref aS, .ref aF, .ref aX, .int (iI pr), .int (iI tk), .int (iI tol), .int (iI hou)])), (aG, .inr (3, [.ref aGn, .ref aGw, .ref aGs, .int (iI kn)])), (aGn, .inl (gI g, 200, .inl (ar nd))), (aO, .inl (gl.1, 1, .inr (.inl lo)))] H := hP
      have hD : va_D A [(aR, .inr (10, [.ref aG, .ref aP, .ref aH, .ref aY, .ref aT, .ref aS, .ref aF, .ref aX, .int (iI pr), .int (iI tk), .int (iI tol), .int (iI hou)])), (aG, .inr (3, [.ref aGn, .ref aGw, .ref aGs, .int (iI kn)])), (aGn, .inl (gI g, 200, .inl (ar nd))), (aO, .inl (gl.1, 1, .inr (.inl lo)))] := hD
      obtain ⟨hE, hp⟩ := hPX
      have hp : rgT kn rg = 1 := hp
      subst hE
      refine vx_catch (E := "java/lang/IndexOutOfBoundsException") (name := "java/lang/IndexOutOfBoundsException") hown [] ⟨0, 9, 12, 24⟩ [] (by rw [htab]; rfl) (fun z hz => by cases hz) (by decide) (by decide) (hts (.classLink RL 24 "java/lang/IndexOutOfBoundsException") (List.mem_of_getElem? (i := 1) rfl)) (va_Nw.use rfl (hC.2.2.2.2.2.2.2.2.2.2.1 "java/lang/IndexOutOfBoundsException" (List.mem_of_getElem? (i := 2) rfl))) hcell hv9 hcl ?_
      refine lv_astore_n (lv' := [(3, .ref q9), (0, .ref aR), (1, .int (iI rg)), (2, .ref aO)]) hx hb dL_needAt_12 rfl hl (by decide) rfl (fun ls hl => ?_)
      refine x_iconst hx hb dL_needAt_13 ?_
      rw [hQ9]
      exact x_iret hx hb hr hlocks hP hD hS (S := (Nat → Int64)) rfl dL_needAt_14 lo (by
          first
          | (
             first | omega | (subst_vars; omega))
          | fail "q9") (by
          first
          | (
             intro h0
             first | (exfalso; omega) | ((try dsimp only); rw [zl_up]; subst_vars; rfl) | ((try dsimp only); rw [zl_up]; congr 1))
          | fail "q9") rfl (Nat.le_of_ble_eq_true rfl) (Nat.le_of_ble_eq_true rfl)
    · skip
      have hP : va_P (gD g) vwCl [(aR, .inr (10, [.ref aG, .ref aP, .ref aH, .ref aY, .ref aT, .ref aS, .ref aF, .ref aX, .int (iI pr), .int (iI tk), .int (iI tol), .int (iI hou)])), (aG, .inr (3, [.ref aGn, .ref aGw, .ref aGs, .int (iI kn)])), (aGn, .inl (gI g, 200, .inl (ar nd))), (aO, .inl (gl.1, 1, .inr (.inl lo)))] H := hP
      have hD : va_D A [(aR, .inr (10, [.ref aG, .ref aP, .ref aH, .ref aY, .ref aT, .ref aS, .ref aF, .ref aX, .int (iI pr), .int (iI tk), .int (iI tol), .int (iI hou)])), (aG, .inr (3, [.ref aGn, .ref aGw, .ref aGs, .int (iI kn)])), (aGn, .inl (gI g, 200, .inl (ar nd))), (aO, .inl (gl.1, 1, .inr (.inl lo)))] := hD
      have hv_1 : v_1 = gt0 kn nd rg := hv_1
      obtain ⟨tv_1, pv_1⟩ := pv_1
      have tv_1 : rgT kn rg = 0 := tv_1
      refine x_i2z hx hb dL_needAt_7 ?_
      refine va_last hx hb hL.1 hP hD hS 3 0 rfl rfl zl_in dL_needAt_8 (fun H locs hP hD hS => ?_)
      have hP : va_P (gD g) vwCl [(aR, .inr (10, [.ref aG, .ref aP, .ref aH, .ref aY, .ref aT, .ref aS, .ref aF, .ref aX, .int (iI pr), .int (iI tk), .int (iI tol), .int (iI hou)])), (aG, .inr (3, [.ref aGn, .ref aGw, .ref aGs, .int (iI kn)])), (aGn, .inl (gI g, 200, .inl (ar nd))), (aO, .inl (gl.1, 1, .inr (.inl (vp_updL lo (iI 0).toNatClampNeg (zL v_1)))))] H := hP
      have hD : va_D A [(aR, .inr (10, [.ref aG, .ref aP, .ref aH, .ref aY, .ref aT, .ref aS, .ref aF, .ref aX, .int (iI pr), .int (iI tk), .int (iI tol), .int (iI hou)])), (aG, .inr (3, [.ref aGn, .ref aGw, .ref aGs, .int (iI kn)])), (aGn, .inl (gI g, 200, .inl (ar nd))), (aO, .inl (gl.1, 1, .inr (.inl (vp_updL lo (iI 0).toNatClampNeg (zL v_1)))))] := hD
      refine lv_goto (tgt := 15) hx hb dL_needAt_9 (by decide) ?_
      refine x_iconst hx hb dL_needAt_15 ?_
      rw [hQ9]
      exact x_iret hx hb hr hlocks hP hD hS (S := (Nat → Int64)) rfl dL_needAt_16 (vp_updL lo (iI 0).toNatClampNeg (zL v_1)) (by
          first
          | (
             first | omega | (subst_vars; omega))
          | fail "q9") (by
          first
          | (
             intro h0
             first | (exfalso; omega) | ((try dsimp only); rw [zl_up]; subst_vars; rfl) | ((try dsimp only); rw [zl_up]; congr 1))
          | fail "q9") rfl (Nat.le_of_ble_eq_true rfl) (Nat.le_of_ble_eq_true rfl)
  rw [hH, hlo, hQ9] at goal_
  exact goal_

set_option maxHeartbeats 4000000 in
set_option maxRecDepth 100000 in
theorem c_L_weaknessAt (l : Launch) (hflags : l.stackTraces = false) (g : xg) (gl : ClassId × ClassId) (sz : Nat) (aR aG aP aH aY aT aS aF aX aGn aGw aGs aO : Nat) (pr tk tol hou kn rg : Int) (wk : Int → Int) (lo : Nat → Int64) (hkn : 0 ≤ kn ∧ kn ≤ 200) (hb_wk : bnd wk 0 20) (hr_rg : iR rg) : Met l yL_weaknessAt wsL_weaknessAt { frames := 8, cells := 1, slots := 6, locals := 134 } (va_Pc [.ref aR, .int (iI rg), .ref aO] (xBL g gl [(aR, .inr (10, [.ref aG, .ref aP, .ref aH, .ref aY, .ref aT, .ref aS, .ref aF, .ref aX, .int (iI pr), .int (iI tk), .int (iI tol), .int (iI hou)])), (aG, .inr (3, [.ref aGn, .ref aGw, .ref aGs, .int (iI kn)])), (aGw, .inl (gI g, 200, .inl (ar wk))), (aO, .inl (gl.1, 1, .inr (.inl lo)))] sz)) (va_Qi (fun r u => r = iI ((fun (u : (Nat → Int64)) => rgT kn rg) u) ∧ (fun (u : (Nat → Int64)) => (rgT kn rg = 0 → u 0 = zL (gt0 kn wk rg))) u) (fun u t => xE g (va_A [(aR, .inr (10, [.ref aG, .ref aP, .ref aH, .ref aY, .ref aT, .ref aS, .ref aF, .ref aX, .int (iI pr), .int (iI tk), .int (iI tol), .int (iI hou)])), (aG, .inr (3, [.ref aGn, .ref aGw, .ref aGs, .int (iI kn)])), (aGw, .inl (gI g, 200, .inl (ar wk))), (aO, .inl (gl.1, 1, .inr (.inl lo)))] sz) ((fun (u : (Nat → Int64)) => [(aR, .inr (10, [.ref aG, .ref aP, .ref aH, .ref aY, .ref aT, .ref aS, .ref aF, .ref aX, .int (iI pr), .int (iI tk), .int (iI tol), .int (iI hou)])), (aG, .inr (3, [.ref aGn, .ref aGw, .ref aGs, .int (iI kn)])), (aGw, .inl (gI g, 200, .inl (ar wk))), (aO, .inl (gl.1, 1, .inr (.inl u)))]) u) t) (va_A [(aR, .inr (10, [.ref aG, .ref aP, .ref aH, .ref aY, .ref aT, .ref aS, .ref aF, .ref aX, .int (iI pr), .int (iI tk), .int (iI tol), .int (iI hou)])), (aG, .inr (3, [.ref aGn, .ref aGw, .ref aGs, .int (iI kn)])), (aGw, .inl (gI g, 200, .inl (ar wk))), (aO, .inl (gl.1, 1, .inr (.inl lo)))] sz)) 1 6 (va_A [(aR, .inr (10, [.ref aG, .ref aP, .ref aH, .ref aY, .ref aT, .ref aS, .ref aF, .ref aX, .int (iI pr), .int (iI tk), .int (iI tol), .int (iI hou)])), (aG, .inr (3, [.ref aGn, .ref aGw, .ref aGs, .int (iI kn)])), (aGw, .inl (gI g, 200, .inl (ar wk))), (aO, .inl (gl.1, 1, .inr (.inl lo)))] sz) := by
  refine x_enterH (y := yL_weaknessAt) (ws := wsL_weaknessAt) (g := g) (sz := sz) (av := [.ref aR, .int (iI rg), .ref aO]) (WS := [(aR, .inr (10, [.ref aG, .ref aP, .ref aH, .ref aY, .ref aT, .ref aS, .ref aF, .ref aX, .int (iI pr), .int (iI tk), .int (iI tol), .int (iI hou)])), (aG, .inr (3, [.ref aGn, .ref aGw, .ref aGs, .int (iI kn)])), (aGw, .inl (gI g, 200, .inl (ar wk))), (aO, .inl (gl.1, 1, .inr (.inl lo)))]) (cc := cL_weaknessAt) (maxL := 4) (ret := some .int) (Qc := (fun A => (va_Qi (fun r u => r = iI ((fun (u : (Nat → Int64)) => rgT kn rg) u) ∧ (fun (u : (Nat → Int64)) => (rgT kn rg = 0 → u 0 = zL (gt0 kn wk rg))) u) (fun u t => xE g A ((fun (u : (Nat → Int64)) => [(aR, .inr (10, [.ref aG, .ref aP, .ref aH, .ref aY, .ref aT, .ref aS, .ref aF, .ref aX, .int (iI pr), .int (iI tk), .int (iI tol), .int (iI hou)])), (aG, .inr (3, [.ref aGn, .ref aGw, .ref aGs, .int (iI kn)])), (aGw, .inl (gI g, 200, .inl (ar wk))), (aO, .inl (gl.1, 1, .inr (.inl u)))]) u) t) A))) (by decide) rfl (Nat.le_of_ble_eq_true rfl) ?_
  intro p e s m args below meth c A ls hx hb hr hml hown hts hlocks htab hL hC hP hD hS hA hl
  have hK := hC.1
  have hown : s.vm.findClass RL = some m.cls := hown
  have hl : lv_has ls 4 [(0, .ref aR), (1, .int (iI rg)), (2, .ref aO)] := hl
  obtain ⟨H, hH⟩ : ∃ z, z = s.heap := ⟨_, rfl⟩
  obtain ⟨locs, hlo⟩ : ∃ z : List Loc, z = [] := ⟨_, rfl⟩
  obtain ⟨Q9, hQ9⟩ : ∃ z, z = MQ below (va_Qi (fun r u => r = iI ((fun (u : (Nat → Int64)) => rgT kn rg) u) ∧ (fun (u : (Nat → Int64)) => (rgT kn rg = 0 → u 0 = zL (gt0 kn wk rg))) u) (fun u t => xE g A ((fun (u : (Nat → Int64)) => [(aR, .inr (10, [.ref aG, .ref aP, .ref aH, .ref aY, .ref aT, .ref aS, .ref aF, .ref aX, .int (iI pr), .int (iI tk), .int (iI tol), .int (iI hou)])), (aG, .inr (3, [.ref aGn, .ref aGw, .ref aGs, .int (iI kn)])), (aGw, .inl (gI g, 200, .inl (ar wk))), (aO, .inl (gl.1, 1, .inr (.inl u)))]) u) t) A) args s 1 6 A := ⟨_, rfl⟩
  have hP : va_P (gD g) vwCl [(aR, .inr (10, [.ref aG, .ref aP, .ref aH, .ref aY, .ref aT, .ref aS, .ref aF, .ref aX, .int (iI pr), .int (iI tk), .int (iI tol), .int (iI hou)])), (aG, .inr (3, [.ref aGn, .ref aGw, .ref aGs, .int (iI kn)])), (aGw, .inl (gI g, 200, .inl (ar wk))), (aO, .inl (gl.1, 1, .inr (.inl lo)))] H := by rw [hH]; exact hP
  have hS : va_S A s.heap H locs := by rw [hH, hlo]; exact hS
  have goal_ : W p l e { frames := 8, cells := 1, slots := 6, locals := 134 } s m args below meth c H locs 0 0 Q9 (F0 m 0 ls []) := by
    clear hH hlo
    refine lv_aload_n hx hb dL_weaknessAt_0 rfl (lv_at hl 2 rfl) ?_
    refine x_iconst hx hb dL_weaknessAt_1 ?_
    refine lv_aload_n hx hb dL_weaknessAt_2 rfl (lv_at hl 0 rfl) ?_
    refine lv_iload_n hx hb dL_weaknessAt_3 rfl (lv_at hl 1 rfl) ?_
    refine x_calliX (S := Unit) (SX := Unit) (wc := [(aR, .inr (10, [.ref aG, .ref aP, .ref aH, .ref aY, .ref aT, .ref aS, .ref aF, .ref aX, .int (iI pr), .int (iI tk), .int (iI tol), .int (iI hou)])), (aG, .inr (3, [.ref aGn, .ref aGw, .ref aGs, .int (iI kn)])), (aGw, .inl (gI g, 200, .inl (ar wk)))]) (wr := [(aO, .inl (gl.1, 1, .inr (.inl lo)))]) hC hP hD hS hA [0, 1, 2] [3] [1, 2, 3, 0] rfl rfl (fun hpre => vx_runV (As := [.int (iI rg)]) (rest := [.int (iI 0), .ref aO]) ⟨hx, hb, hml, hown, hts⟩ (c_X8_weaknessAt l hflags g H.size aR aG aP aH aY aT aS aF aX aGn aGw aGs pr tk tol hou kn rg wk (by first | (first | assumption | omega | exact bnd_up (by assumption) (by omega) (by omega)) | fail "q8") (by first | (first | assumption | omega | exact bnd_up (by assumption) (by omega) (by omega)) | fail "q8") (by first | (first | assumption | omega | exact bnd_up (by assumption) (by omega) (by omega)) | fail "q8")) (cwV 1 hts gL_weaknessAt_X8_weaknessAt rfl rfl rfl (by decide +kernel) ⟨Nat.le_of_ble_eq_true rfl, Nat.le_of_ble_eq_true rfl⟩) ⟨xB_blind, va_recv hK hP (ci := 10) (q0 := 0) rfl rfl, hpre _⟩ rfl rfl hl.1 rfl (lv_room (Nat.le_of_ble_eq_true rfl)) dL_weaknessAt_4 ⟨Nat.le_of_ble_eq_true rfl, Nat.le_of_ble_eq_true rfl⟩) (fun (u : Unit) => [(aR, .inr (10, [.ref aG, .ref aP, .ref aH, .ref aY, .ref aT, .ref aS, .ref aF, .ref aX, .int (iI pr), .int (iI tk), .int (iI tol), .int (iI hou)])), (aG, .inr (3, [.ref aGn, .ref aGw, .ref aGs, .int (iI kn)])), (aGw, .inl (gI g, 200, .inl (ar wk))), (aO, .inl (gl.1, 1, .inr (.inl lo)))]) (fun (u : Unit) => ([(aR, .inr (10, [.ref aG, .ref aP, .ref aH, .ref aY, .ref aT, .ref aS, .ref aF, .ref aX, .int (iI pr), .int (iI tk), .int (iI tol), .int (iI hou)])), (aG, .inr (3, [.ref aGn, .ref aGw, .ref aGs, .int (iI kn)])), (aGw, .inl (gI g, 200, .inl (ar wk))), (aO, .inl (gl.1, 1, .inr (.inl lo)))] : va_W)) rfl rfl (by decide) (fun _ => rfl) (fun _ => rfl) rfl (fun E ce q9 u H locs hXP hPX hP hD hS hcell hv9 hcl => ?_) (fun u v_1 H locs hv_1 pv_1 hP hD hS => ?_)
    · skip
      have hP : va_P (gD g) vwCl [(aR, .inr (10, [.ref aG, .ref aP, .ref aH, .ref aY, .ref aT, .ref aS, .ref aF, .ref aX, .int (iI pr), .int (iI tk), .int (iI tol), .int (iI hou)])), (aG, .inr (3, [.ref aGn, .ref aGw, .ref aGs, .int (iI kn)])), (aGw, .inl (gI g, 200, .inl (ar wk))), (aO, .inl (gl.1, 1, .inr (.inl lo)))] H := hP
      have hD : va_D A [(aR, .inr (10, [.ref aG, .ref aP, .ref aH, .ref aY, .ref aT, .ref aS, .ref aF, .ref aX, .int (iI pr), .int (iI tk), .int (iI tol), .int (iI hou)])), (aG, .inr (3, [.ref aGn, .ref aGw, .ref aGs, .int (iI kn)])), (aGw, .inl (gI g, 200, .inl (ar wk))), (aO, .inl (gl.1, 1, .inr (.inl lo)))] := hD
      obtain ⟨hE, hp⟩ := hPX
      have hp : rgT kn rg = 1 := hp
      subst hE
      refine vx_catch (E := "java/lang/IndexOutOfBoundsException") (name := "java/lang/IndexOutOfBoundsException") hown [] ⟨0, 9, 12, 24⟩ [] (by rw [htab]; rfl) (fun z hz => by cases hz) (by decide) (by decide) (hts (.classLink RL 24 "java/lang/IndexOutOfBoundsException") (List.mem_of_getElem? (i := 1) rfl)) (va_Nw.use rfl (hC.2.2.2.2.2.2.2.2.2.2.1 "java/lang/IndexOutOfBoundsException" (List.mem_of_getElem? (i := 2) rfl))) hcell hv9 hcl ?_
      refine lv_astore_n (lv' := [(3, .ref q9), (0, .ref aR), (1, .int (iI rg)), (2, .ref aO)]) hx hb dL_weaknessAt_12 rfl hl (by decide) rfl (fun ls hl => ?_)
      refine x_iconst hx hb dL_weaknessAt_13 ?_
      rw [hQ9]
      exact x_iret hx hb hr hlocks hP hD hS (S := (Nat → Int64)) rfl dL_weaknessAt_14 lo (by
          first
          | (
             first | omega | (subst_vars; omega))
          | fail "q9") (by
          first
          | (
             intro h0
             first | (exfalso; omega) | ((try dsimp only); rw [zl_up]; subst_vars; rfl) | ((try dsimp only); rw [zl_up]; congr 1))
          | fail "q9") rfl (Nat.le_of_ble_eq_true rfl) (Nat.le_of_ble_eq_true rfl)
    · skip
      have hP : va_P (gD g) vwCl [(aR, .inr (10, [.ref aG, .ref aP, .ref aH, .ref aY, .ref aT, .ref aS, .ref aF, .ref aX, .int (iI pr), .int (iI tk), .int (iI tol), .int (iI hou)])), (aG, .inr (3, [.ref aGn, .ref aGw, .ref aGs, .int (iI kn)])), (aGw, .inl (gI g, 200, .inl (ar wk))), (aO, .inl (gl.1, 1, .inr (.inl lo)))] H := hP
      have hD : va_D A [(aR, .inr (10, [.ref aG, .ref aP, .ref aH, .ref aY, .ref aT, .ref aS, .ref aF, .ref aX, .int (iI pr), .int (iI tk), .int (iI tol), .int (iI hou)])), (aG, .inr (3, [.ref aGn, .ref aGw, .ref aGs, .int (iI kn)])), (aGw, .inl (gI g, 200, .inl (ar wk))), (aO, .inl (gl.1, 1, .inr (.inl lo)))] := hD
      have hv_1 : v_1 = gt0 kn wk rg := hv_1
      obtain ⟨tv_1, pv_1⟩ := pv_1
      have tv_1 : rgT kn rg = 0 := tv_1
      refine x_i2z hx hb dL_weaknessAt_7 ?_
      refine va_last hx hb hL.1 hP hD hS 3 0 rfl rfl zl_in dL_weaknessAt_8 (fun H locs hP hD hS => ?_)
      have hP : va_P (gD g) vwCl [(aR, .inr (10, [.ref aG, .ref aP, .ref aH, .ref aY, .ref aT, .ref aS, .ref aF, .ref aX, .int (iI pr), .int (iI tk), .int (iI tol), .int (iI hou)])), (aG, .inr (3, [.ref aGn, .ref aGw, .ref aGs, .int (iI kn)])), (aGw, .inl (gI g, 200, .inl (ar wk))), (aO, .inl (gl.1, 1, .inr (.inl (vp_updL lo (iI 0).toNatClampNeg (zL v_1)))))] H := hP
      have hD : va_D A [(aR, .inr (10, [.ref aG, .ref aP, .ref aH, .ref aY, .ref aT, .ref aS, .ref aF, .ref aX, .int (iI pr), .int (iI tk), .int (iI tol), .int (iI hou)])), (aG, .inr (3, [.ref aGn, .ref aGw, .ref aGs, .int (iI kn)])), (aGw, .inl (gI g, 200, .inl (ar wk))), (aO, .inl (gl.1, 1, .inr (.inl (vp_updL lo (iI 0).toNatClampNeg (zL v_1)))))] := hD
      refine lv_goto (tgt := 15) hx hb dL_weaknessAt_9 (by decide) ?_
      refine x_iconst hx hb dL_weaknessAt_15 ?_
      rw [hQ9]
      exact x_iret hx hb hr hlocks hP hD hS (S := (Nat → Int64)) rfl dL_weaknessAt_16 (vp_updL lo (iI 0).toNatClampNeg (zL v_1)) (by
          first
          | (
             first | omega | (subst_vars; omega))
          | fail "q9") (by
          first
          | (
             intro h0
             first | (exfalso; omega) | ((try dsimp only); rw [zl_up]; subst_vars; rfl) | ((try dsimp only); rw [zl_up]; congr 1))
          | fail "q9") rfl (Nat.le_of_ble_eq_true rfl) (Nat.le_of_ble_eq_true rfl)
  rw [hH, hlo, hQ9] at goal_
  exact goal_

set_option maxHeartbeats 4000000 in
set_option maxRecDepth 100000 in
theorem c_L_addHouse (l : Launch) (hflags : l.stackTraces = false) (g : xg) (gl : ClassId × ClassId) (sz : Nat) (aR aG aP aH aY aT aS aF aX aGn aGw aGs aHf aHl aHm aHr aHp aO : Nat) (pr tk tol hou kn bu fr lr nl nr : Int) (fi la li ra : Int → Int) (lo : Nat → Int64) (hkn : 0 ≤ kn ∧ kn ≤ 200) (hbu : 0 ≤ bu ∧ bu ≤ 8) (hr_fr : iR fr) (hr_lr : iR lr) (hr_nl : iR nl) (hr_nr : iR nr) : Met l yL_addHouse wsL_addHouse { frames := 8, cells := 5, slots := 30, locals := 138 } (va_Pc [.ref aR, .int (iI fr), .int (iI lr), .int (iI nl), .int (iI nr), .ref aO] (xBL g gl [(aR, .inr (10, [.ref aG, .ref aP, .ref aH, .ref aY, .ref aT, .ref aS, .ref aF, .ref aX, .int (iI pr), .int (iI tk), .int (iI tol), .int (iI hou)])), (aG, .inr (3, [.ref aGn, .ref aGw, .ref aGs, .int (iI kn)])), (aH, .inr (4, [.ref aHf, .ref aHl, .ref aHm, .ref aHr, .ref aHp, .int (iI bu)])), (aHf, .inl (gI g, 8, .inl (ar fi))), (aHl, .inl (gI g, 8, .inl (ar la))), (aHm, .inl (gI g, 8, .inl (ar li))), (aHr, .inl (gI g, 8, .inl (ar ra))), (aO, .inl (gl.1, 1, .inr (.inl lo)))] sz)) (va_Qi (fun r u => r = iI ((fun (u : (Nat → Int64)) => ahT kn bu fr lr nl nr) u) ∧ (fun (u : (Nat → Int64)) => (ahT kn bu fr lr nl nr = 0 → u 0 = zL bu)) u) (fun u t => xE g (va_A [(aR, .inr (10, [.ref aG, .ref aP, .ref aH, .ref aY, .ref aT, .ref aS, .ref aF, .ref aX, .int (iI pr), .int (iI tk), .int (iI tol), .int (iI hou)])), (aG, .inr (3, [.ref aGn, .ref aGw, .ref aGs, .int (iI kn)])), (aH, .inr (4, [.ref aHf, .ref aHl, .ref aHm, .ref aHr, .ref aHp, .int (iI bu)])), (aHf, .inl (gI g, 8, .inl (ar fi))), (aHl, .inl (gI g, 8, .inl (ar la))), (aHm, .inl (gI g, 8, .inl (ar li))), (aHr, .inl (gI g, 8, .inl (ar ra))), (aO, .inl (gl.1, 1, .inr (.inl lo)))] sz) ((fun (u : (Nat → Int64)) => [(aR, .inr (10, [.ref aG, .ref aP, .ref aH, .ref aY, .ref aT, .ref aS, .ref aF, .ref aX, .int (iI pr), .int (iI tk), .int (iI tol), .int (iI hou)])), (aG, .inr (3, [.ref aGn, .ref aGw, .ref aGs, .int (iI kn)])), (aH, .inr (4, [.ref aHf, .ref aHl, .ref aHm, .ref aHr, .ref aHp, .int (iI (if ahT kn bu fr lr nl nr = 0 then (bu + 1) else bu))])), (aHf, .inl (gI g, 8, .inl (ar (if ahT kn bu fr lr nl nr = 0 then (up fi bu fr) else fi)))), (aHl, .inl (gI g, 8, .inl (ar (if ahT kn bu fr lr nl nr = 0 then (up la bu lr) else la)))), (aHm, .inl (gI g, 8, .inl (ar (if ahT kn bu fr lr nl nr = 0 then (up li bu nl) else li)))), (aHr, .inl (gI g, 8, .inl (ar (if ahT kn bu fr lr nl nr = 0 then (up ra bu nr) else ra)))), (aO, .inl (gl.1, 1, .inr (.inl u)))]) u) t) (va_A [(aR, .inr (10, [.ref aG, .ref aP, .ref aH, .ref aY, .ref aT, .ref aS, .ref aF, .ref aX, .int (iI pr), .int (iI tk), .int (iI tol), .int (iI hou)])), (aG, .inr (3, [.ref aGn, .ref aGw, .ref aGs, .int (iI kn)])), (aH, .inr (4, [.ref aHf, .ref aHl, .ref aHm, .ref aHr, .ref aHp, .int (iI bu)])), (aHf, .inl (gI g, 8, .inl (ar fi))), (aHl, .inl (gI g, 8, .inl (ar la))), (aHm, .inl (gI g, 8, .inl (ar li))), (aHr, .inl (gI g, 8, .inl (ar ra))), (aO, .inl (gl.1, 1, .inr (.inl lo)))] sz)) 5 30 (va_A [(aR, .inr (10, [.ref aG, .ref aP, .ref aH, .ref aY, .ref aT, .ref aS, .ref aF, .ref aX, .int (iI pr), .int (iI tk), .int (iI tol), .int (iI hou)])), (aG, .inr (3, [.ref aGn, .ref aGw, .ref aGs, .int (iI kn)])), (aH, .inr (4, [.ref aHf, .ref aHl, .ref aHm, .ref aHr, .ref aHp, .int (iI bu)])), (aHf, .inl (gI g, 8, .inl (ar fi))), (aHl, .inl (gI g, 8, .inl (ar la))), (aHm, .inl (gI g, 8, .inl (ar li))), (aHr, .inl (gI g, 8, .inl (ar ra))), (aO, .inl (gl.1, 1, .inr (.inl lo)))] sz) := by
  refine x_enterH (y := yL_addHouse) (ws := wsL_addHouse) (g := g) (sz := sz) (av := [.ref aR, .int (iI fr), .int (iI lr), .int (iI nl), .int (iI nr), .ref aO]) (WS := [(aR, .inr (10, [.ref aG, .ref aP, .ref aH, .ref aY, .ref aT, .ref aS, .ref aF, .ref aX, .int (iI pr), .int (iI tk), .int (iI tol), .int (iI hou)])), (aG, .inr (3, [.ref aGn, .ref aGw, .ref aGs, .int (iI kn)])), (aH, .inr (4, [.ref aHf, .ref aHl, .ref aHm, .ref aHr, .ref aHp, .int (iI bu)])), (aHf, .inl (gI g, 8, .inl (ar fi))), (aHl, .inl (gI g, 8, .inl (ar la))), (aHm, .inl (gI g, 8, .inl (ar li))), (aHr, .inl (gI g, 8, .inl (ar ra))), (aO, .inl (gl.1, 1, .inr (.inl lo)))]) (cc := cL_addHouse) (maxL := 7) (ret := some .int) (Qc := (fun A => (va_Qi (fun r u => r = iI ((fun (u : (Nat → Int64)) => ahT kn bu fr lr nl nr) u) ∧ (fun (u : (Nat → Int64)) => (ahT kn bu fr lr nl nr = 0 → u 0 = zL bu)) u) (fun u t => xE g A ((fun (u : (Nat → Int64)) => [(aR, .inr (10, [.ref aG, .ref aP, .ref aH, .ref aY, .ref aT, .ref aS, .ref aF, .ref aX, .int (iI pr), .int (iI tk), .int (iI tol), .int (iI hou)])), (aG, .inr (3, [.ref aGn, .ref aGw, .ref aGs, .int (iI kn)])), (aH, .inr (4, [.ref aHf, .ref aHl, .ref aHm, .ref aHr, .ref aHp, .int (iI (if ahT kn bu fr lr nl nr = 0 then (bu + 1) else bu))])), (aHf, .inl (gI g, 8, .inl (ar (if ahT kn bu fr lr nl nr = 0 then (up fi bu fr) else fi)))), (aHl, .inl (gI g, 8, .inl (ar (if ahT kn bu fr lr nl nr = 0 then (up la bu lr) else la)))), (aHm, .inl (gI g, 8, .inl (ar (if ahT kn bu fr lr nl nr = 0 then (up li bu nl) else li)))), (aHr, .inl (gI g, 8, .inl (ar (if ahT kn bu fr lr nl nr = 0 then (up ra bu nr) else ra)))), (aO, .inl (gl.1, 1, .inr (.inl u)))]) u) t) A))) (by decide) rfl (Nat.le_of_ble_eq_true rfl) ?_
  intro p e s m args below meth c A ls hx hb hr hml hown hts hlocks htab hL hC hP hD hS hA hl
  have hK := hC.1
  have hown : s.vm.findClass RL = some m.cls := hown
  have hl : lv_has ls 7 [(0, .ref aR), (1, .int (iI fr)), (2, .int (iI lr)), (3, .int (iI nl)), (4, .int (iI nr)), (5, .ref aO)] := hl
  obtain ⟨H, hH⟩ : ∃ z, z = s.heap := ⟨_, rfl⟩
  obtain ⟨locs, hlo⟩ : ∃ z : List Loc, z = [] := ⟨_, rfl⟩
  obtain ⟨Q9, hQ9⟩ : ∃ z, z = MQ below (va_Qi (fun r u => r = iI ((fun (u : (Nat → Int64)) => ahT kn bu fr lr nl nr) u) ∧ (fun (u : (Nat → Int64)) => (ahT kn bu fr lr nl nr = 0 → u 0 = zL bu)) u) (fun u t => xE g A ((fun (u : (Nat → Int64)) => [(aR, .inr (10, [.ref aG, .ref aP, .ref aH, .ref aY, .ref aT, .ref aS, .ref aF, .ref aX, .int (iI pr), .int (iI tk), .int (iI tol), .int (iI hou)])), (aG, .inr (3, [.ref aGn, .ref aGw, .ref aGs, .int (iI kn)])), (aH, .inr (4, [.ref aHf, .ref aHl, .ref aHm, .ref aHr, .ref aHp, .int (iI (if ahT kn bu fr lr nl nr = 0 then (bu + 1) else bu))])), (aHf, .inl (gI g, 8, .inl (ar (if ahT kn bu fr lr nl nr = 0 then (up fi bu fr) else fi)))), (aHl, .inl (gI g, 8, .inl (ar (if ahT kn bu fr lr nl nr = 0 then (up la bu lr) else la)))), (aHm, .inl (gI g, 8, .inl (ar (if ahT kn bu fr lr nl nr = 0 then (up li bu nl) else li)))), (aHr, .inl (gI g, 8, .inl (ar (if ahT kn bu fr lr nl nr = 0 then (up ra bu nr) else ra)))), (aO, .inl (gl.1, 1, .inr (.inl u)))]) u) t) A) args s 5 30 A := ⟨_, rfl⟩
  have hP : va_P (gD g) vwCl [(aR, .inr (10, [.ref aG, .ref aP, .ref aH, .ref aY, .ref aT, .ref aS, .ref aF, .ref aX, .int (iI pr), .int (iI tk), .int (iI tol), .int (iI hou)])), (aG, .inr (3, [.ref aGn, .ref aGw, .ref aGs, .int (iI kn)])), (aH, .inr (4, [.ref aHf, .ref aHl, .ref aHm, .ref aHr, .ref aHp, .int (iI bu)])), (aHf, .inl (gI g, 8, .inl (ar fi))), (aHl, .inl (gI g, 8, .inl (ar la))), (aHm, .inl (gI g, 8, .inl (ar li))), (aHr, .inl (gI g, 8, .inl (ar ra))), (aO, .inl (gl.1, 1, .inr (.inl lo)))] H := by rw [hH]; exact hP
  have hS : va_S A s.heap H locs := by rw [hH, hlo]; exact hS
  have goal_ : W p l e { frames := 8, cells := 5, slots := 30, locals := 138 } s m args below meth c H locs 0 0 Q9 (F0 m 0 ls []) := by
    clear hH hlo
    refine lv_aload hx hb dL_addHouse_0 (lv_at hl 5 rfl) ?_
    refine x_iconst hx hb dL_addHouse_2 ?_
    refine lv_aload_n hx hb dL_addHouse_3 rfl (lv_at hl 0 rfl) ?_
    refine lv_iload_n hx hb dL_addHouse_4 rfl (lv_at hl 1 rfl) ?_
    refine lv_iload_n hx hb dL_addHouse_5 rfl (lv_at hl 2 rfl) ?_
    refine lv_iload_n hx hb dL_addHouse_6 rfl (lv_at hl 3 rfl) ?_
    refine lv_iload hx hb dL_addHouse_7 (lv_at hl 4 rfl) ?_
    refine x_calliX (S := Unit) (SX := Unit) (wc := [(aR, .inr (10, [.ref aG, .ref aP, .ref aH, .ref aY, .ref aT, .ref aS, .ref aF, .ref aX, .int (iI pr), .int (iI tk), .int (iI tol), .int (iI hou)])), (aG, .inr (3, [.ref aGn, .ref aGw, .ref aGs, .int (iI kn)])), (aH, .inr (4, [.ref aHf, .ref aHl, .ref aHm, .ref aHr, .ref aHp, .int (iI bu)])), (aHf, .inl (gI g, 8, .inl (ar fi))), (aHl, .inl (gI g, 8, .inl (ar la))), (aHm, .inl (gI g, 8, .inl (ar li))), (aHr, .inl (gI g, 8, .inl (ar ra)))]) (wr := [(aO, .inl (gl.1, 1, .inr (.inl lo)))]) hC hP hD hS hA [0, 1, 2, 3, 4, 5, 6] [7] [1, 2, 3, 4, 5, 6, 7, 0] rfl rfl (fun hpre => vx_runV (As := [.int (iI fr), .int (iI lr), .int (iI nl), .int (iI nr)]) (rest := [.int (iI 0), .ref aO]) ⟨hx, hb, hml, hown, hts⟩ (c_X8_addHouse l hflags g H.size aR aG aP aH aY aT aS aF aX aGn aGw aGs aHf aHl aHm aHr aHp pr tk tol hou kn bu fr lr nl nr fi la li ra (by first | (first | assumption | omega | exact bnd_up (by assumption) (by omega) (by omega)) | fail "q8") (by first | (first | assumption | omega | exact bnd_up (by assumption) (by omega) (by omega)) | fail "q8") (by first | (first | assumption | omega | exact bnd_up (by assumption) (by omega) (by omega)) | fail "q8") (by first | (first | assumption | omega | exact bnd_up (by assumption) (by omega) (by omega)) | fail "q8") (by first | (first | assumption | omega | exact bnd_up (by assumption) (by omega) (by omega)) | fail "q8") (by first | (first | assumption | omega | exact bnd_up (by assumption) (by omega) (by omega)) | fail "q8")) (cwV 4 hts gL_addHouse_X8_addHouse rfl rfl rfl (by decide +kernel) ⟨Nat.le_of_ble_eq_true rfl, Nat.le_of_ble_eq_true rfl⟩) ⟨xB_blind, va_recv hK hP (ci := 10) (q0 := 0) rfl rfl, hpre _⟩ rfl rfl hl.1 rfl (lv_room (Nat.le_of_ble_eq_true rfl)) dL_addHouse_9 ⟨Nat.le_of_ble_eq_true rfl, Nat.le_of_ble_eq_true rfl⟩) (fun (u : Unit) => [(aR, .inr (10, [.ref aG, .ref aP, .ref aH, .ref aY, .ref aT, .ref aS, .ref aF, .ref aX, .int (iI pr), .int (iI tk), .int (iI tol), .int (iI hou)])), (aG, .inr (3, [.ref aGn, .ref aGw, .ref aGs, .int (iI kn)])), (aH, .inr (4, [.ref aHf, .ref aHl, .ref aHm, .ref aHr, .ref aHp, .int (iI (bu + 1))])), (aHf, .inl (gI g, 8, .inl (ar (up fi bu fr)))), (aHl, .inl (gI g, 8, .inl (ar (up la bu lr)))), (aHm, .inl (gI g, 8, .inl (ar (up li bu nl)))), (aHr, .inl (gI g, 8, .inl (ar (up ra bu nr)))), (aO, .inl (gl.1, 1, .inr (.inl lo)))]) (fun (u : Unit) => ([(aR, .inr (10, [.ref aG, .ref aP, .ref aH, .ref aY, .ref aT, .ref aS, .ref aF, .ref aX, .int (iI pr), .int (iI tk), .int (iI tol), .int (iI hou)])), (aG, .inr (3, [.ref aGn, .ref aGw, .ref aGs, .int (iI kn)])), (aH, .inr (4, [.ref aHf, .ref aHl, .ref aHm, .ref aHr, .ref aHp, .int (iI bu)])), (aHf, .inl (gI g, 8, .inl (ar fi))), (aHl, .inl (gI g, 8, .inl (ar la))), (aHm, .inl (gI g, 8, .inl (ar li))), (aHr, .inl (gI g, 8, .inl (ar ra))), (aO, .inl (gl.1, 1, .inr (.inl lo)))] : va_W)) rfl rfl (by decide) (fun _ => rfl) (fun _ => rfl) rfl (fun E ce q9 u H locs hXP hPX hP hD hS hcell hv9 hcl => ?_) (fun u v_1 H locs hv_1 pv_1 hP hD hS => ?_)
    · skip
      have hP : va_P (gD g) vwCl [(aR, .inr (10, [.ref aG, .ref aP, .ref aH, .ref aY, .ref aT, .ref aS, .ref aF, .ref aX, .int (iI pr), .int (iI tk), .int (iI tol), .int (iI hou)])), (aG, .inr (3, [.ref aGn, .ref aGw, .ref aGs, .int (iI kn)])), (aH, .inr (4, [.ref aHf, .ref aHl, .ref aHm, .ref aHr, .ref aHp, .int (iI bu)])), (aHf, .inl (gI g, 8, .inl (ar fi))), (aHl, .inl (gI g, 8, .inl (ar la))), (aHm, .inl (gI g, 8, .inl (ar li))), (aHr, .inl (gI g, 8, .inl (ar ra))), (aO, .inl (gl.1, 1, .inr (.inl lo)))] H := hP
      have hD : va_D A [(aR, .inr (10, [.ref aG, .ref aP, .ref aH, .ref aY, .ref aT, .ref aS, .ref aF, .ref aX, .int (iI pr), .int (iI tk), .int (iI tol), .int (iI hou)])), (aG, .inr (3, [.ref aGn, .ref aGw, .ref aGs, .int (iI kn)])), (aH, .inr (4, [.ref aHf, .ref aHl, .ref aHm, .ref aHr, .ref aHp, .int (iI bu)])), (aHf, .inl (gI g, 8, .inl (ar fi))), (aHl, .inl (gI g, 8, .inl (ar la))), (aHm, .inl (gI g, 8, .inl (ar li))), (aHr, .inl (gI g, 8, .inl (ar ra))), (aO, .inl (gl.1, 1, .inr (.inl lo)))] := hD
      rcases hPX with ⟨hE, hp⟩ | ⟨hE, hp⟩ | ⟨hE, hp⟩
      · skip
        have hp : ahT kn bu fr lr nl nr = 1 := hp
        subst hE
        refine vx_catch (E := "java/lang/IndexOutOfBoundsException") (name := "java/lang/IndexOutOfBoundsException") hown [] ⟨0, 14, 17, 24⟩ [⟨0, 14, 21, 13⟩, ⟨0, 14, 25, 15⟩] (by rw [htab]; rfl) (fun z hz => by cases hz) (by decide) (by decide) (hts (.classLink RL 24 "java/lang/IndexOutOfBoundsException") (List.mem_of_getElem? (i := 1) rfl)) (va_Nw.use rfl (hC.2.2.2.2.2.2.2.2.2.2.1 "java/lang/IndexOutOfBoundsException" (List.mem_of_getElem? (i := 2) rfl))) hcell hv9 hcl ?_
        refine lv_astore (lv' := [(6, .ref q9), (0, .ref aR), (1, .int (iI fr)), (2, .int (iI lr)), (3, .int (iI nl)), (4, .int (iI nr)), (5, .ref aO)]) hx hb dL_addHouse_17 hl (by decide) rfl (fun ls hl => ?_)
        refine x_iconst hx hb dL_addHouse_19 ?_
        have q_2 : (if ahT kn bu fr lr nl nr = 0 then (bu + 1) else bu) = bu := by
          first
          | (
             first | rfl | (rw [if_pos (by omega)]) | (rw [if_neg (by omega)]) | (rw [if_pos (by omega)]; subst_vars; rfl))
          | fail "q9"
        have q_3 : (if ahT kn bu fr lr nl nr = 0 then (up fi bu fr) else fi) = fi := by
          first
          | (
             first | rfl | (rw [if_pos (by omega)]) | (rw [if_neg (by omega)]) | (rw [if_pos (by omega)]; subst_vars; rfl))
          | fail "q9"
        have q_4 : (if ahT kn bu fr lr nl nr = 0 then (up la bu lr) else la) = la := by
          first
          | (
             first | rfl | (rw [if_pos (by omega)]) | (rw [if_neg (by omega)]) | (rw [if_pos (by omega)]; subst_vars; rfl))
          | fail "q9"
        have q_5 : (if ahT kn bu fr lr nl nr = 0 then (up li bu nl) else li) = li := by
          first
          | (
             first | rfl | (rw [if_pos (by omega)]) | (rw [if_neg (by omega)]) | (rw [if_pos (by omega)]; subst_vars; rfl))
          | fail "q9"
        have q_6 : (if ahT kn bu fr lr nl nr = 0 then (up ra bu nr) else ra) = ra := by
          first
          | (
             first | rfl | (rw [if_pos (by omega)]) | (rw [if_neg (by omega)]) | (rw [if_pos (by omega)]; subst_vars; rfl))
          | fail "q9"
        have hw_7 := (congr (congr (congr (congr (congrArg (fun (z0 : Int) (z1 : Int → Int) (z2 : Int → Int) (z3 : Int → Int) (z4 : Int → Int) => ([(aR, .inr (10, [.ref aG, .ref aP, .ref aH, .ref aY, .ref aT, .ref aS, .ref aF, .ref aX, .int (iI pr), .int (iI tk), .int (iI tol), .int (iI hou)])), (aG, .inr (3, [.ref aGn, .ref aGw, .ref aGs, .int (iI kn)])), (aH, .inr (4, [.ref aHf, .ref aHl, .ref aHm, .ref aHr, .ref aHp, .int (iI z0)])), (aHf, .inl (gI g, 8, .inl (ar z1))), (aHl, .inl (gI g, 8, .inl (ar z2))), (aHm, .inl (gI g, 8, .inl (ar z3))), (aHr, .inl (gI g, 8, .inl (ar z4))), (aO, .inl (gl.1, 1, .inr (.inl lo)))] : va_W)) q_2.symm) q_3.symm) q_4.symm) q_5.symm) q_6.symm)
        rw [hQ9]
        exact x_iret hx hb hr hlocks hP hD hS (S := (Nat → Int64)) rfl dL_addHouse_20 lo (by
            first
            | (
               first | omega | (subst_vars; omega))
            | fail "q9") (by
            first
            | (
               intro h0
               first | (exfalso; omega) | ((try dsimp only); rw [zl_up]; subst_vars; rfl) | ((try dsimp only); rw [zl_up]; congr 1))
            | fail "q9") hw_7 (Nat.le_of_ble_eq_true rfl) (Nat.le_of_ble_eq_true rfl)
      · skip
        have hp : ahT kn bu fr lr nl nr = 2 := hp
        subst hE
        refine vx_catch (E := "java/lang/IllegalArgumentException") (name := "java/lang/IllegalArgumentException") hown [⟨0, 14, 17, 24⟩] ⟨0, 14, 21, 13⟩ [⟨0, 14, 25, 15⟩] (by rw [htab]; rfl) (fun z hz => by rcases List.mem_cons.mp hz with rfl | hz; exact Or.inr ⟨by decide, "java/lang/IndexOutOfBoundsException", (hts (.classLink RL 24 "java/lang/IndexOutOfBoundsException") (List.mem_of_getElem? (i := 1) rfl)), hL.2 ("java/lang/IllegalArgumentException", "java/lang/IndexOutOfBoundsException") (List.mem_of_getElem? (i := 1) (by decide +kernel))⟩; cases hz) (by decide) (by decide) (hts (.classLink RL 13 "java/lang/IllegalArgumentException") (List.mem_of_getElem? (i := 2) rfl)) (va_Nw.use rfl (hC.2.2.2.2.2.2.2.2.2.2.1 "java/lang/IllegalArgumentException" (List.mem_of_getElem? (i := 0) rfl))) hcell hv9 hcl ?_
        refine lv_astore (lv' := [(6, .ref q9), (0, .ref aR), (1, .int (iI fr)), (2, .int (iI lr)), (3, .int (iI nl)), (4, .int (iI nr)), (5, .ref aO)]) hx hb dL_addHouse_21 hl (by decide) rfl (fun ls hl => ?_)
        refine x_iconst hx hb dL_addHouse_23 ?_
        have q_8 : (if ahT kn bu fr lr nl nr = 0 then (bu + 1) else bu) = bu := by
          first
          | (
             first | rfl | (rw [if_pos (by omega)]) | (rw [if_neg (by omega)]) | (rw [if_pos (by omega)]; subst_vars; rfl))
          | fail "q9"
        have q_9 : (if ahT kn bu fr lr nl nr = 0 then (up fi bu fr) else fi) = fi := by
          first
          | (
             first | rfl | (rw [if_pos (by omega)]) | (rw [if_neg (by omega)]) | (rw [if_pos (by omega)]; subst_vars; rfl))
          | fail "q9"
        have q_10 : (if ahT kn bu fr lr nl nr = 0 then (up la bu lr) else la) = la := by
          first
          | (
             first | rfl | (rw [if_pos (by omega)]) | (rw [if_neg (by omega)]) | (rw [if_pos (by omega)]; subst_vars; rfl))
          | fail "q9"
        have q_11 : (if ahT kn bu fr lr nl nr = 0 then (up li bu nl) else li) = li := by
          first
          | (
             first | rfl | (rw [if_pos (by omega)]) | (rw [if_neg (by omega)]) | (rw [if_pos (by omega)]; subst_vars; rfl))
          | fail "q9"
        have q_12 : (if ahT kn bu fr lr nl nr = 0 then (up ra bu nr) else ra) = ra := by
          first
          | (
             first | rfl | (rw [if_pos (by omega)]) | (rw [if_neg (by omega)]) | (rw [if_pos (by omega)]; subst_vars; rfl))
          | fail "q9"
        have hw_13 := (congr (congr (congr (congr (congrArg (fun (z0 : Int) (z1 : Int → Int) (z2 : Int → Int) (z3 : Int → Int) (z4 : Int → Int) => ([(aR, .inr (10, [.ref aG, .ref aP, .ref aH, .ref aY, .ref aT, .ref aS, .ref aF, .ref aX, .int (iI pr), .int (iI tk), .int (iI tol), .int (iI hou)])), (aG, .inr (3, [.ref aGn, .ref aGw, .ref aGs, .int (iI kn)])), (aH, .inr (4, [.ref aHf, .ref aHl, .ref aHm, .ref aHr, .ref aHp, .int (iI z0)])), (aHf, .inl (gI g, 8, .inl (ar z1))), (aHl, .inl (gI g, 8, .inl (ar z2))), (aHm, .inl (gI g, 8, .inl (ar z3))), (aHr, .inl (gI g, 8, .inl (ar z4))), (aO, .inl (gl.1, 1, .inr (.inl lo)))] : va_W)) q_8.symm) q_9.symm) q_10.symm) q_11.symm) q_12.symm)
        rw [hQ9]
        exact x_iret hx hb hr hlocks hP hD hS (S := (Nat → Int64)) rfl dL_addHouse_24 lo (by
            first
            | (
               first | omega | (subst_vars; omega))
            | fail "q9") (by
            first
            | (
               intro h0
               first | (exfalso; omega) | ((try dsimp only); rw [zl_up]; subst_vars; rfl) | ((try dsimp only); rw [zl_up]; congr 1))
            | fail "q9") hw_13 (Nat.le_of_ble_eq_true rfl) (Nat.le_of_ble_eq_true rfl)
      · skip
        have hp : ahT kn bu fr lr nl nr = 3 := hp
        subst hE
        refine vx_catch (E := "java/lang/IllegalStateException") (name := "java/lang/IllegalStateException") hown [⟨0, 14, 17, 24⟩, ⟨0, 14, 21, 13⟩] ⟨0, 14, 25, 15⟩ [] (by rw [htab]; rfl) (fun z hz => by rcases List.mem_cons.mp hz with rfl | hz; exact Or.inr ⟨by decide, "java/lang/IndexOutOfBoundsException", (hts (.classLink RL 24 "java/lang/IndexOutOfBoundsException") (List.mem_of_getElem? (i := 1) rfl)), hL.2 ("java/lang/IllegalStateException", "java/lang/IndexOutOfBoundsException") (List.mem_of_getElem? (i := 6) (by decide +kernel))⟩; rcases List.mem_cons.mp hz with rfl | hz; exact Or.inr ⟨by decide, "java/lang/IllegalArgumentException", (hts (.classLink RL 13 "java/lang/IllegalArgumentException") (List.mem_of_getElem? (i := 2) rfl)), hL.2 ("java/lang/IllegalStateException", "java/lang/IllegalArgumentException") (List.mem_of_getElem? (i := 5) (by decide +kernel))⟩; cases hz) (by decide) (by decide) (hts (.classLink RL 15 "java/lang/IllegalStateException") (List.mem_of_getElem? (i := 3) rfl)) (va_Nw.use rfl (hC.2.2.2.2.2.2.2.2.2.2.1 "java/lang/IllegalStateException" (List.mem_of_getElem? (i := 1) rfl))) hcell hv9 hcl ?_
        refine lv_astore (lv' := [(6, .ref q9), (0, .ref aR), (1, .int (iI fr)), (2, .int (iI lr)), (3, .int (iI nl)), (4, .int (iI nr)), (5, .ref aO)]) hx hb dL_addHouse_25 hl (by decide) rfl (fun ls hl => ?_)
        refine x_iconst hx hb dL_addHouse_27 ?_
        have q_14 : (if ahT kn bu fr lr nl nr = 0 then (bu + 1) else bu) = bu := by
          first
          | (
             first | rfl | (rw [if_pos (by omega)]) | (rw [if_neg (by omega)]) | (rw [if_pos (by omega)]; subst_vars; rfl))
          | fail "q9"
        have q_15 : (if ahT kn bu fr lr nl nr = 0 then (up fi bu fr) else fi) = fi := by
          first
          | (
             first | rfl | (rw [if_pos (by omega)]) | (rw [if_neg (by omega)]) | (rw [if_pos (by omega)]; subst_vars; rfl))
          | fail "q9"
        have q_16 : (if ahT kn bu fr lr nl nr = 0 then (up la bu lr) else la) = la := by
          first
          | (
             first | rfl | (rw [if_pos (by omega)]) | (rw [if_neg (by omega)]) | (rw [if_pos (by omega)]; subst_vars; rfl))
          | fail "q9"
        have q_17 : (if ahT kn bu fr lr nl nr = 0 then (up li bu nl) else li) = li := by
          first
          | (
             first | rfl | (rw [if_pos (by omega)]) | (rw [if_neg (by omega)]) | (rw [if_pos (by omega)]; subst_vars; rfl))
          | fail "q9"
        have q_18 : (if ahT kn bu fr lr nl nr = 0 then (up ra bu nr) else ra) = ra := by
          first
          | (
             first | rfl | (rw [if_pos (by omega)]) | (rw [if_neg (by omega)]) | (rw [if_pos (by omega)]; subst_vars; rfl))
          | fail "q9"
        have hw_19 := (congr (congr (congr (congr (congrArg (fun (z0 : Int) (z1 : Int → Int) (z2 : Int → Int) (z3 : Int → Int) (z4 : Int → Int) => ([(aR, .inr (10, [.ref aG, .ref aP, .ref aH, .ref aY, .ref aT, .ref aS, .ref aF, .ref aX, .int (iI pr), .int (iI tk), .int (iI tol), .int (iI hou)])), (aG, .inr (3, [.ref aGn, .ref aGw, .ref aGs, .int (iI kn)])), (aH, .inr (4, [.ref aHf, .ref aHl, .ref aHm, .ref aHr, .ref aHp, .int (iI z0)])), (aHf, .inl (gI g, 8, .inl (ar z1))), (aHl, .inl (gI g, 8, .inl (ar z2))), (aHm, .inl (gI g, 8, .inl (ar z3))), (aHr, .inl (gI g, 8, .inl (ar z4))), (aO, .inl (gl.1, 1, .inr (.inl lo)))] : va_W)) q_14.symm) q_15.symm) q_16.symm) q_17.symm) q_18.symm)
        rw [hQ9]
        exact x_iret hx hb hr hlocks hP hD hS (S := (Nat → Int64)) rfl dL_addHouse_28 lo (by
            first
            | (
               first | omega | (subst_vars; omega))
            | fail "q9") (by
            first
            | (
               intro h0
               first | (exfalso; omega) | ((try dsimp only); rw [zl_up]; subst_vars; rfl) | ((try dsimp only); rw [zl_up]; congr 1))
            | fail "q9") hw_19 (Nat.le_of_ble_eq_true rfl) (Nat.le_of_ble_eq_true rfl)
    · skip
      have hP : va_P (gD g) vwCl [(aR, .inr (10, [.ref aG, .ref aP, .ref aH, .ref aY, .ref aT, .ref aS, .ref aF, .ref aX, .int (iI pr), .int (iI tk), .int (iI tol), .int (iI hou)])), (aG, .inr (3, [.ref aGn, .ref aGw, .ref aGs, .int (iI kn)])), (aH, .inr (4, [.ref aHf, .ref aHl, .ref aHm, .ref aHr, .ref aHp, .int (iI (bu + 1))])), (aHf, .inl (gI g, 8, .inl (ar (up fi bu fr)))), (aHl, .inl (gI g, 8, .inl (ar (up la bu lr)))), (aHm, .inl (gI g, 8, .inl (ar (up li bu nl)))), (aHr, .inl (gI g, 8, .inl (ar (up ra bu nr)))), (aO, .inl (gl.1, 1, .inr (.inl lo)))] H := hP
      have hD : va_D A [(aR, .inr (10, [.ref aG, .ref aP, .ref aH, .ref aY, .ref aT, .ref aS, .ref aF, .ref aX, .int (iI pr), .int (iI tk), .int (iI tol), .int (iI hou)])), (aG, .inr (3, [.ref aGn, .ref aGw, .ref aGs, .int (iI kn)])), (aH, .inr (4, [.ref aHf, .ref aHl, .ref aHm, .ref aHr, .ref aHp, .int (iI (bu + 1))])), (aHf, .inl (gI g, 8, .inl (ar (up fi bu fr)))), (aHl, .inl (gI g, 8, .inl (ar (up la bu lr)))), (aHm, .inl (gI g, 8, .inl (ar (up li bu nl)))), (aHr, .inl (gI g, 8, .inl (ar (up ra bu nr)))), (aO, .inl (gl.1, 1, .inr (.inl lo)))] := hD
      have hv_1 : v_1 = bu := hv_1
      obtain ⟨tv_1, pv_1⟩ := pv_1
      have tv_1 : ahT kn bu fr lr nl nr = 0 := tv_1
      refine x_i2z hx hb dL_addHouse_12 ?_
      refine va_last hx hb hL.1 hP hD hS 7 0 rfl rfl zl_in dL_addHouse_13 (fun H locs hP hD hS => ?_)
      have hP : va_P (gD g) vwCl [(aR, .inr (10, [.ref aG, .ref aP, .ref aH, .ref aY, .ref aT, .ref aS, .ref aF, .ref aX, .int (iI pr), .int (iI tk), .int (iI tol), .int (iI hou)])), (aG, .inr (3, [.ref aGn, .ref aGw, .ref aGs, .int (iI kn)])), (aH, .inr (4, [.ref aHf, .ref aHl, .ref aHm, .ref aHr, .ref aHp, .int (iI (bu + 1))])), (aHf, .inl (gI g, 8, .inl (ar (up fi bu fr)))), (aHl, .inl (gI g, 8, .inl (ar (up la bu lr)))), (aHm, .inl (gI g, 8, .inl (ar (up li bu nl)))), (aHr, .inl (gI g, 8, .inl (ar (up ra bu nr)))), (aO, .inl (gl.1, 1, .inr (.inl (vp_updL lo (iI 0).toNatClampNeg (zL v_1)))))] H := hP
      have hD : va_D A [(aR, .inr (10, [.ref aG, .ref aP, .ref aH, .ref aY, .ref aT, .ref aS, .ref aF, .ref aX, .int (iI pr), .int (iI tk), .int (iI tol), .int (iI hou)])), (aG, .inr (3, [.ref aGn, .ref aGw, .ref aGs, .int (iI kn)])), (aH, .inr (4, [.ref aHf, .ref aHl, .ref aHm, .ref aHr, .ref aHp, .int (iI (bu + 1))])), (aHf, .inl (gI g, 8, .inl (ar (up fi bu fr)))), (aHl, .inl (gI g, 8, .inl (ar (up la bu lr)))), (aHm, .inl (gI g, 8, .inl (ar (up li bu nl)))), (aHr, .inl (gI g, 8, .inl (ar (up ra bu nr)))), (aO, .inl (gl.1, 1, .inr (.inl (vp_updL lo (iI 0).toNatClampNeg (zL v_1)))))] := hD
      refine lv_goto (tgt := 29) hx hb dL_addHouse_14 (by decide) ?_
      refine x_iconst hx hb dL_addHouse_29 ?_
      have q_20 : (if ahT kn bu fr lr nl nr = 0 then (bu + 1) else bu) = (bu + 1) := by
        first
        | (
           first | rfl | (rw [if_pos (by omega)]) | (rw [if_neg (by omega)]) | (rw [if_pos (by omega)]; subst_vars; rfl))
        | fail "q9"
      have q_21 : (if ahT kn bu fr lr nl nr = 0 then (up fi bu fr) else fi) = (up fi bu fr) := by
        first
        | (
           first | rfl | (rw [if_pos (by omega)]) | (rw [if_neg (by omega)]) | (rw [if_pos (by omega)]; subst_vars; rfl))
        | fail "q9"
      have q_22 : (if ahT kn bu fr lr nl nr = 0 then (up la bu lr) else la) = (up la bu lr) := by
        first
        | (
           first | rfl | (rw [if_pos (by omega)]) | (rw [if_neg (by omega)]) | (rw [if_pos (by omega)]; subst_vars; rfl))
        | fail "q9"
      have q_23 : (if ahT kn bu fr lr nl nr = 0 then (up li bu nl) else li) = (up li bu nl) := by
        first
        | (
           first | rfl | (rw [if_pos (by omega)]) | (rw [if_neg (by omega)]) | (rw [if_pos (by omega)]; subst_vars; rfl))
        | fail "q9"
      have q_24 : (if ahT kn bu fr lr nl nr = 0 then (up ra bu nr) else ra) = (up ra bu nr) := by
        first
        | (
           first | rfl | (rw [if_pos (by omega)]) | (rw [if_neg (by omega)]) | (rw [if_pos (by omega)]; subst_vars; rfl))
        | fail "q9"
      have hw_25 := (congr (congr (congr (congr (congrArg (fun (z0 : Int) (z1 : Int → Int) (z2 : Int → Int) (z3 : Int → Int) (z4 : Int → Int) => ([(aR, .inr (10, [.ref aG, .ref aP, .ref aH, .ref aY, .ref aT, .ref aS, .ref aF, .ref aX, .int (iI pr), .int (iI tk), .int (iI tol), .int (iI hou)])), (aG, .inr (3, [.ref aGn, .ref aGw, .ref aGs, .int (iI kn)])), (aH, .inr (4, [.ref aHf, .ref aHl, .ref aHm, .ref aHr, .ref aHp, .int (iI z0)])), (aHf, .inl (gI g, 8, .inl (ar z1))), (aHl, .inl (gI g, 8, .inl (ar z2))), (aHm, .inl (gI g, 8, .inl (ar z3))), (aHr, .inl (gI g, 8, .inl (ar z4))), (aO, .inl (gl.1, 1, .inr (.inl (vp_updL lo (iI 0).toNatClampNeg (zL v_1)))))] : va_W)) q_20.symm) q_21.symm) q_22.symm) q_23.symm) q_24.symm)
      rw [hQ9]
      exact x_iret hx hb hr hlocks hP hD hS (S := (Nat → Int64)) rfl dL_addHouse_30 (vp_updL lo (iI 0).toNatClampNeg (zL v_1)) (by
          first
          | (
             first | omega | (subst_vars; omega))
          | fail "q9") (by
          first
          | (
             intro h0
             first | (exfalso; omega) | ((try dsimp only); rw [zl_up]; subst_vars; rfl) | ((try dsimp only); rw [zl_up]; congr 1))
          | fail "q9") hw_25 (Nat.le_of_ble_eq_true rfl) (Nat.le_of_ble_eq_true rfl)
  rw [hH, hlo, hQ9] at goal_
  exact goal_

set_option maxHeartbeats 4000000 in
set_option maxRecDepth 100000 in
theorem c_L_cast (l : Launch) (hflags : l.stackTraces = false) (g : xg) (gl : ClassId × ClassId) (sz : Nat) (aR aG aP aH aY aT aS aF aX aYh aYt aYc aO : Nat) (pr tk tol hou sta nt : Int) (ht yt yc : Int → Int) (lo : Nat → Int64) (hb_ht : bnd ht 0 12) (hhou : 0 ≤ hou ∧ hou ≤ 5000) (hr_sta : iR sta) (hr_nt : iR nt) : Met l yL_cast wsL_cast { frames := 8, cells := 3, slots := 18, locals := 136 } (va_Pc [.ref aR, .int (iI sta), .int (iI nt), .ref aO] (xBL g gl [(aR, .inr (10, [.ref aG, .ref aP, .ref aH, .ref aY, .ref aT, .ref aS, .ref aF, .ref aX, .int (iI pr), .int (iI tk), .int (iI tol), .int (iI hou)])), (aY, .inr (9, [.ref aYh, .ref aYt, .ref aYc])), (aYh, .inl (gI g, 3, .inl (ar ht))), (aYt, .inl (gI g, 36, .inl (ar yt))), (aYc, .inl (gI g, 36, .inl (ar yc))), (aO, .inl (gl.1, 1, .inr (.inl lo)))] sz)) (va_Qi (fun r u => r = iI ((fun (u : (Nat → Int64)) => caT ht sta nt) u) ∧ (fun (u : (Nat → Int64)) => (caT ht sta nt = 0 → u 0 = zL (ht sta + 1))) u) (fun u t => xE g (va_A [(aR, .inr (10, [.ref aG, .ref aP, .ref aH, .ref aY, .ref aT, .ref aS, .ref aF, .ref aX, .int (iI pr), .int (iI tk), .int (iI tol), .int (iI hou)])), (aY, .inr (9, [.ref aYh, .ref aYt, .ref aYc])), (aYh, .inl (gI g, 3, .inl (ar ht))), (aYt, .inl (gI g, 36, .inl (ar yt))), (aYc, .inl (gI g, 36, .inl (ar yc))), (aO, .inl (gl.1, 1, .inr (.inl lo)))] sz) ((fun (u : (Nat → Int64)) => [(aR, .inr (10, [.ref aG, .ref aP, .ref aH, .ref aY, .ref aT, .ref aS, .ref aF, .ref aX, .int (iI pr), .int (iI tk), .int (iI tol), .int (iI hou)])), (aY, .inr (9, [.ref aYh, .ref aYt, .ref aYc])), (aYh, .inl (gI g, 3, .inl (ar (if caT ht sta nt = 0 then (up ht sta (ht sta + 1)) else ht)))), (aYt, .inl (gI g, 36, .inl (ar (if caT ht sta nt = 0 then (up yt (sta * 12 + ht sta) nt) else yt)))), (aYc, .inl (gI g, 36, .inl (ar (if caT ht sta nt = 0 then (up yc (sta * 12 + ht sta) hou) else yc)))), (aO, .inl (gl.1, 1, .inr (.inl u)))]) u) t) (va_A [(aR, .inr (10, [.ref aG, .ref aP, .ref aH, .ref aY, .ref aT, .ref aS, .ref aF, .ref aX, .int (iI pr), .int (iI tk), .int (iI tol), .int (iI hou)])), (aY, .inr (9, [.ref aYh, .ref aYt, .ref aYc])), (aYh, .inl (gI g, 3, .inl (ar ht))), (aYt, .inl (gI g, 36, .inl (ar yt))), (aYc, .inl (gI g, 36, .inl (ar yc))), (aO, .inl (gl.1, 1, .inr (.inl lo)))] sz)) 3 18 (va_A [(aR, .inr (10, [.ref aG, .ref aP, .ref aH, .ref aY, .ref aT, .ref aS, .ref aF, .ref aX, .int (iI pr), .int (iI tk), .int (iI tol), .int (iI hou)])), (aY, .inr (9, [.ref aYh, .ref aYt, .ref aYc])), (aYh, .inl (gI g, 3, .inl (ar ht))), (aYt, .inl (gI g, 36, .inl (ar yt))), (aYc, .inl (gI g, 36, .inl (ar yc))), (aO, .inl (gl.1, 1, .inr (.inl lo)))] sz) := by
  refine x_enterH (y := yL_cast) (ws := wsL_cast) (g := g) (sz := sz) (av := [.ref aR, .int (iI sta), .int (iI nt), .ref aO]) (WS := [(aR, .inr (10, [.ref aG, .ref aP, .ref aH, .ref aY, .ref aT, .ref aS, .ref aF, .ref aX, .int (iI pr), .int (iI tk), .int (iI tol), .int (iI hou)])), (aY, .inr (9, [.ref aYh, .ref aYt, .ref aYc])), (aYh, .inl (gI g, 3, .inl (ar ht))), (aYt, .inl (gI g, 36, .inl (ar yt))), (aYc, .inl (gI g, 36, .inl (ar yc))), (aO, .inl (gl.1, 1, .inr (.inl lo)))]) (cc := cL_cast) (maxL := 5) (ret := some .int) (Qc := (fun A => (va_Qi (fun r u => r = iI ((fun (u : (Nat → Int64)) => caT ht sta nt) u) ∧ (fun (u : (Nat → Int64)) => (caT ht sta nt = 0 → u 0 = zL (ht sta + 1))) u) (fun u t => xE g A ((fun (u : (Nat → Int64)) => [(aR, .inr (10, [.ref aG, .ref aP, .ref aH, .ref aY, .ref aT, .ref aS, .ref aF, .ref aX, .int (iI pr), .int (iI tk), .int (iI tol), .int (iI hou)])), (aY, .inr (9, [.ref aYh, .ref aYt, .ref aYc])), (aYh, .inl (gI g, 3, .inl (ar (if caT ht sta nt = 0 then (up ht sta (ht sta + 1)) else ht)))), (aYt, .inl (gI g, 36, .inl (ar (if caT ht sta nt = 0 then (up yt (sta * 12 + ht sta) nt) else yt)))), (aYc, .inl (gI g, 36, .inl (ar (if caT ht sta nt = 0 then (up yc (sta * 12 + ht sta) hou) else yc)))), (aO, .inl (gl.1, 1, .inr (.inl u)))]) u) t) A))) (by decide) rfl (Nat.le_of_ble_eq_true rfl) ?_
  intro p e s m args below meth c A ls hx hb hr hml hown hts hlocks htab hL hC hP hD hS hA hl
  have hK := hC.1
  have hown : s.vm.findClass RL = some m.cls := hown
  have hl : lv_has ls 5 [(0, .ref aR), (1, .int (iI sta)), (2, .int (iI nt)), (3, .ref aO)] := hl
  obtain ⟨H, hH⟩ : ∃ z, z = s.heap := ⟨_, rfl⟩
  obtain ⟨locs, hlo⟩ : ∃ z : List Loc, z = [] := ⟨_, rfl⟩
  obtain ⟨Q9, hQ9⟩ : ∃ z, z = MQ below (va_Qi (fun r u => r = iI ((fun (u : (Nat → Int64)) => caT ht sta nt) u) ∧ (fun (u : (Nat → Int64)) => (caT ht sta nt = 0 → u 0 = zL (ht sta + 1))) u) (fun u t => xE g A ((fun (u : (Nat → Int64)) => [(aR, .inr (10, [.ref aG, .ref aP, .ref aH, .ref aY, .ref aT, .ref aS, .ref aF, .ref aX, .int (iI pr), .int (iI tk), .int (iI tol), .int (iI hou)])), (aY, .inr (9, [.ref aYh, .ref aYt, .ref aYc])), (aYh, .inl (gI g, 3, .inl (ar (if caT ht sta nt = 0 then (up ht sta (ht sta + 1)) else ht)))), (aYt, .inl (gI g, 36, .inl (ar (if caT ht sta nt = 0 then (up yt (sta * 12 + ht sta) nt) else yt)))), (aYc, .inl (gI g, 36, .inl (ar (if caT ht sta nt = 0 then (up yc (sta * 12 + ht sta) hou) else yc)))), (aO, .inl (gl.1, 1, .inr (.inl u)))]) u) t) A) args s 3 18 A := ⟨_, rfl⟩
  have hP : va_P (gD g) vwCl [(aR, .inr (10, [.ref aG, .ref aP, .ref aH, .ref aY, .ref aT, .ref aS, .ref aF, .ref aX, .int (iI pr), .int (iI tk), .int (iI tol), .int (iI hou)])), (aY, .inr (9, [.ref aYh, .ref aYt, .ref aYc])), (aYh, .inl (gI g, 3, .inl (ar ht))), (aYt, .inl (gI g, 36, .inl (ar yt))), (aYc, .inl (gI g, 36, .inl (ar yc))), (aO, .inl (gl.1, 1, .inr (.inl lo)))] H := by rw [hH]; exact hP
  have hS : va_S A s.heap H locs := by rw [hH, hlo]; exact hS
  have goal_ : W p l e { frames := 8, cells := 3, slots := 18, locals := 136 } s m args below meth c H locs 0 0 Q9 (F0 m 0 ls []) := by
    clear hH hlo
    refine lv_aload_n hx hb dL_cast_0 rfl (lv_at hl 3 rfl) ?_
    refine x_iconst hx hb dL_cast_1 ?_
    refine lv_aload_n hx hb dL_cast_2 rfl (lv_at hl 0 rfl) ?_
    refine lv_iload_n hx hb dL_cast_3 rfl (lv_at hl 1 rfl) ?_
    refine lv_iload_n hx hb dL_cast_4 rfl (lv_at hl 2 rfl) ?_
    refine x_calliX (S := Unit) (SX := Unit) (wc := [(aR, .inr (10, [.ref aG, .ref aP, .ref aH, .ref aY, .ref aT, .ref aS, .ref aF, .ref aX, .int (iI pr), .int (iI tk), .int (iI tol), .int (iI hou)])), (aY, .inr (9, [.ref aYh, .ref aYt, .ref aYc])), (aYh, .inl (gI g, 3, .inl (ar ht))), (aYt, .inl (gI g, 36, .inl (ar yt))), (aYc, .inl (gI g, 36, .inl (ar yc)))]) (wr := [(aO, .inl (gl.1, 1, .inr (.inl lo)))]) hC hP hD hS hA [0, 1, 2, 3, 4] [5] [1, 2, 3, 4, 5, 0] rfl rfl (fun hpre => vx_runV (As := [.int (iI sta), .int (iI nt)]) (rest := [.int (iI 0), .ref aO]) ⟨hx, hb, hml, hown, hts⟩ (c_X8_cast l hflags g H.size aR aG aP aH aY aT aS aF aX aYh aYt aYc pr tk tol hou sta nt ht yt yc (by first | (first | assumption | omega | exact bnd_up (by assumption) (by omega) (by omega)) | fail "q8") (by first | (first | assumption | omega | exact bnd_up (by assumption) (by omega) (by omega)) | fail "q8") (by first | (first | assumption | omega | exact bnd_up (by assumption) (by omega) (by omega)) | fail "q8") (by first | (first | assumption | omega | exact bnd_up (by assumption) (by omega) (by omega)) | fail "q8")) (cwV 2 hts gL_cast_X8_cast rfl rfl rfl (by decide +kernel) ⟨Nat.le_of_ble_eq_true rfl, Nat.le_of_ble_eq_true rfl⟩) ⟨xB_blind, va_recv hK hP (ci := 10) (q0 := 0) rfl rfl, hpre _⟩ rfl rfl hl.1 rfl (lv_room (Nat.le_of_ble_eq_true rfl)) dL_cast_5 ⟨Nat.le_of_ble_eq_true rfl, Nat.le_of_ble_eq_true rfl⟩) (fun (u : Unit) => [(aR, .inr (10, [.ref aG, .ref aP, .ref aH, .ref aY, .ref aT, .ref aS, .ref aF, .ref aX, .int (iI pr), .int (iI tk), .int (iI tol), .int (iI hou)])), (aY, .inr (9, [.ref aYh, .ref aYt, .ref aYc])), (aYh, .inl (gI g, 3, .inl (ar (up ht sta (ht sta + 1))))), (aYt, .inl (gI g, 36, .inl (ar (up yt (sta * 12 + ht sta) nt)))), (aYc, .inl (gI g, 36, .inl (ar (up yc (sta * 12 + ht sta) hou)))), (aO, .inl (gl.1, 1, .inr (.inl lo)))]) (fun (u : Unit) => ([(aR, .inr (10, [.ref aG, .ref aP, .ref aH, .ref aY, .ref aT, .ref aS, .ref aF, .ref aX, .int (iI pr), .int (iI tk), .int (iI tol), .int (iI hou)])), (aY, .inr (9, [.ref aYh, .ref aYt, .ref aYc])), (aYh, .inl (gI g, 3, .inl (ar ht))), (aYt, .inl (gI g, 36, .inl (ar yt))), (aYc, .inl (gI g, 36, .inl (ar yc))), (aO, .inl (gl.1, 1, .inr (.inl lo)))] : va_W)) rfl rfl (by decide) (fun _ => rfl) (fun _ => rfl) rfl (fun E ce q9 u H locs hXP hPX hP hD hS hcell hv9 hcl => ?_) (fun u v_1 H locs hv_1 pv_1 hP hD hS => ?_)
    · skip
      have hP : va_P (gD g) vwCl [(aR, .inr (10, [.ref aG, .ref aP, .ref aH, .ref aY, .ref aT, .ref aS, .ref aF, .ref aX, .int (iI pr), .int (iI tk), .int (iI tol), .int (iI hou)])), (aY, .inr (9, [.ref aYh, .ref aYt, .ref aYc])), (aYh, .inl (gI g, 3, .inl (ar ht))), (aYt, .inl (gI g, 36, .inl (ar yt))), (aYc, .inl (gI g, 36, .inl (ar yc))), (aO, .inl (gl.1, 1, .inr (.inl lo)))] H := hP
      have hD : va_D A [(aR, .inr (10, [.ref aG, .ref aP, .ref aH, .ref aY, .ref aT, .ref aS, .ref aF, .ref aX, .int (iI pr), .int (iI tk), .int (iI tol), .int (iI hou)])), (aY, .inr (9, [.ref aYh, .ref aYt, .ref aYc])), (aYh, .inl (gI g, 3, .inl (ar ht))), (aYt, .inl (gI g, 36, .inl (ar yt))), (aYc, .inl (gI g, 36, .inl (ar yc))), (aO, .inl (gl.1, 1, .inr (.inl lo)))] := hD
      rcases hPX with ⟨hE, hp⟩ | ⟨hE, hp⟩ | ⟨hE, hp⟩
      · skip
        have hp : caT ht sta nt = 1 := hp
        subst hE
        refine vx_catch (E := "java/lang/IndexOutOfBoundsException") (name := "java/lang/IndexOutOfBoundsException") hown [] ⟨0, 10, 13, 24⟩ [⟨0, 10, 17, 13⟩, ⟨0, 10, 21, 15⟩] (by rw [htab]; rfl) (fun z hz => by cases hz) (by decide) (by decide) (hts (.classLink RL 24 "java/lang/IndexOutOfBoundsException") (List.mem_of_getElem? (i := 1) rfl)) (va_Nw.use rfl (hC.2.2.2.2.2.2.2.2.2.2.1 "java/lang/IndexOutOfBoundsException" (List.mem_of_getElem? (i := 2) rfl))) hcell hv9 hcl ?_
        refine lv_astore (lv' := [(4, .ref q9), (0, .ref aR), (1, .int (iI sta)), (2, .int (iI nt)), (3, .ref aO)]) hx hb dL_cast_13 hl (by decide) rfl (fun ls hl => ?_)
        refine x_iconst hx hb dL_cast_15 ?_
        have q_2 : (if caT ht sta nt = 0 then (up ht sta (ht sta + 1)) else ht) = ht := by
          first
          | (
             first | rfl | (rw [if_pos (by omega)]) | (rw [if_neg (by omega)]) | (rw [if_pos (by omega)]; subst_vars; rfl))
          | fail "q9"
        have q_3 : (if caT ht sta nt = 0 then (up yt (sta * 12 + ht sta) nt) else yt) = yt := by
          first
          | (
             first | rfl | (rw [if_pos (by omega)]) | (rw [if_neg (by omega)]) | (rw [if_pos (by omega)]; subst_vars; rfl))
          | fail "q9"
        have q_4 : (if caT ht sta nt = 0 then (up yc (sta * 12 + ht sta) hou) else yc) = yc := by
          first
          | (
             first | rfl | (rw [if_pos (by omega)]) | (rw [if_neg (by omega)]) | (rw [if_pos (by omega)]; subst_vars; rfl))
          | fail "q9"
        have hw_5 := (congr (congr (congrArg (fun (z0 : Int → Int) (z1 : Int → Int) (z2 : Int → Int) => ([(aR, .inr (10, [.ref aG, .ref aP, .ref aH, .ref aY, .ref aT, .ref aS, .ref aF, .ref aX, .int (iI pr), .int (iI tk), .int (iI tol), .int (iI hou)])), (aY, .inr (9, [.ref aYh, .ref aYt, .ref aYc])), (aYh, .inl (gI g, 3, .inl (ar z0))), (aYt, .inl (gI g, 36, .inl (ar z1))), (aYc, .inl (gI g, 36, .inl (ar z2))), (aO, .inl (gl.1, 1, .inr (.inl lo)))] : va_W)) q_2.symm) q_3.symm) q_4.symm)
        rw [hQ9]
        exact x_iret hx hb hr hlocks hP hD hS (S := (Nat → Int64)) rfl dL_cast_16 lo (by
            first
            | (
               first | omega | (subst_vars; omega))
            | fail "q9") (by
            first
            | (
               intro h0
               first | (exfalso; omega) | ((try dsimp only); rw [zl_up]; subst_vars; rfl) | ((try dsimp only); rw [zl_up]; congr 1))
            | fail "q9") hw_5 (Nat.le_of_ble_eq_true rfl) (Nat.le_of_ble_eq_true rfl)
      · skip
        have hp : caT ht sta nt = 2 := hp
        subst hE
        refine vx_catch (E := "java/lang/IllegalArgumentException") (name := "java/lang/IllegalArgumentException") hown [⟨0, 10, 13, 24⟩] ⟨0, 10, 17, 13⟩ [⟨0, 10, 21, 15⟩] (by rw [htab]; rfl) (fun z hz => by rcases List.mem_cons.mp hz with rfl | hz; exact Or.inr ⟨by decide, "java/lang/IndexOutOfBoundsException", (hts (.classLink RL 24 "java/lang/IndexOutOfBoundsException") (List.mem_of_getElem? (i := 1) rfl)), hL.2 ("java/lang/IllegalArgumentException", "java/lang/IndexOutOfBoundsException") (List.mem_of_getElem? (i := 1) (by decide +kernel))⟩; cases hz) (by decide) (by decide) (hts (.classLink RL 13 "java/lang/IllegalArgumentException") (List.mem_of_getElem? (i := 2) rfl)) (va_Nw.use rfl (hC.2.2.2.2.2.2.2.2.2.2.1 "java/lang/IllegalArgumentException" (List.mem_of_getElem? (i := 0) rfl))) hcell hv9 hcl ?_
        refine lv_astore (lv' := [(4, .ref q9), (0, .ref aR), (1, .int (iI sta)), (2, .int (iI nt)), (3, .ref aO)]) hx hb dL_cast_17 hl (by decide) rfl (fun ls hl => ?_)
        refine x_iconst hx hb dL_cast_19 ?_
        have q_6 : (if caT ht sta nt = 0 then (up ht sta (ht sta + 1)) else ht) = ht := by
          first
          | (
             first | rfl | (rw [if_pos (by omega)]) | (rw [if_neg (by omega)]) | (rw [if_pos (by omega)]; subst_vars; rfl))
          | fail "q9"
        have q_7 : (if caT ht sta nt = 0 then (up yt (sta * 12 + ht sta) nt) else yt) = yt := by
          first
          | (
             first | rfl | (rw [if_pos (by omega)]) | (rw [if_neg (by omega)]) | (rw [if_pos (by omega)]; subst_vars; rfl))
          | fail "q9"
        have q_8 : (if caT ht sta nt = 0 then (up yc (sta * 12 + ht sta) hou) else yc) = yc := by
          first
          | (
             first | rfl | (rw [if_pos (by omega)]) | (rw [if_neg (by omega)]) | (rw [if_pos (by omega)]; subst_vars; rfl))
          | fail "q9"
        have hw_9 := (congr (congr (congrArg (fun (z0 : Int → Int) (z1 : Int → Int) (z2 : Int → Int) => ([(aR, .inr (10, [.ref aG, .ref aP, .ref aH, .ref aY, .ref aT, .ref aS, .ref aF, .ref aX, .int (iI pr), .int (iI tk), .int (iI tol), .int (iI hou)])), (aY, .inr (9, [.ref aYh, .ref aYt, .ref aYc])), (aYh, .inl (gI g, 3, .inl (ar z0))), (aYt, .inl (gI g, 36, .inl (ar z1))), (aYc, .inl (gI g, 36, .inl (ar z2))), (aO, .inl (gl.1, 1, .inr (.inl lo)))] : va_W)) q_6.symm) q_7.symm) q_8.symm)
        rw [hQ9]
        exact x_iret hx hb hr hlocks hP hD hS (S := (Nat → Int64)) rfl dL_cast_20 lo (by
            first
            | (
               first | omega | (subst_vars; omega))
            | fail "q9") (by
            first
            | (
               intro h0
               first | (exfalso; omega) | ((try dsimp only); rw [zl_up]; subst_vars; rfl) | ((try dsimp only); rw [zl_up]; congr 1))
            | fail "q9") hw_9 (Nat.le_of_ble_eq_true rfl) (Nat.le_of_ble_eq_true rfl)
      · skip
        have hp : caT ht sta nt = 3 := hp
        subst hE
        refine vx_catch (E := "java/lang/IllegalStateException") (name := "java/lang/IllegalStateException") hown [⟨0, 10, 13, 24⟩, ⟨0, 10, 17, 13⟩] ⟨0, 10, 21, 15⟩ [] (by rw [htab]; rfl) (fun z hz => by rcases List.mem_cons.mp hz with rfl | hz; exact Or.inr ⟨by decide, "java/lang/IndexOutOfBoundsException", (hts (.classLink RL 24 "java/lang/IndexOutOfBoundsException") (List.mem_of_getElem? (i := 1) rfl)), hL.2 ("java/lang/IllegalStateException", "java/lang/IndexOutOfBoundsException") (List.mem_of_getElem? (i := 6) (by decide +kernel))⟩; rcases List.mem_cons.mp hz with rfl | hz; exact Or.inr ⟨by decide, "java/lang/IllegalArgumentException", (hts (.classLink RL 13 "java/lang/IllegalArgumentException") (List.mem_of_getElem? (i := 2) rfl)), hL.2 ("java/lang/IllegalStateException", "java/lang/IllegalArgumentException") (List.mem_of_getElem? (i := 5) (by decide +kernel))⟩; cases hz) (by decide) (by decide) (hts (.classLink RL 15 "java/lang/IllegalStateException") (List.mem_of_getElem? (i := 3) rfl)) (va_Nw.use rfl (hC.2.2.2.2.2.2.2.2.2.2.1 "java/lang/IllegalStateException" (List.mem_of_getElem? (i := 1) rfl))) hcell hv9 hcl ?_
        refine lv_astore (lv' := [(4, .ref q9), (0, .ref aR), (1, .int (iI sta)), (2, .int (iI nt)), (3, .ref aO)]) hx hb dL_cast_21 hl (by decide) rfl (fun ls hl => ?_)
        refine x_iconst hx hb dL_cast_23 ?_
        have q_10 : (if caT ht sta nt = 0 then (up ht sta (ht sta + 1)) else ht) = ht := by
          first
          | (
             first | rfl | (rw [if_pos (by omega)]) | (rw [if_neg (by omega)]) | (rw [if_pos (by omega)]; subst_vars; rfl))
          | fail "q9"
        have q_11 : (if caT ht sta nt = 0 then (up yt (sta * 12 + ht sta) nt) else yt) = yt := by
          first
          | (
             first | rfl | (rw [if_pos (by omega)]) | (rw [if_neg (by omega)]) | (rw [if_pos (by omega)]; subst_vars; rfl))
          | fail "q9"
        have q_12 : (if caT ht sta nt = 0 then (up yc (sta * 12 + ht sta) hou) else yc) = yc := by
          first
          | (
             first | rfl | (rw [if_pos (by omega)]) | (rw [if_neg (by omega)]) | (rw [if_pos (by omega)]; subst_vars; rfl))
          | fail "q9"
        have hw_13 := (congr (congr (congrArg (fun (z0 : Int → Int) (z1 : Int → Int) (z2 : Int → Int) => ([(aR, .inr (10, [.ref aG, .ref aP, .ref aH, .ref aY, .ref aT, .ref aS, .ref aF, .ref aX, .int (iI pr), .int (iI tk), .int (iI tol), .int (iI hou)])), (aY, .inr (9, [.ref aYh, .ref aYt, .ref aYc])), (aYh, .inl (gI g, 3, .inl (ar z0))), (aYt, .inl (gI g, 36, .inl (ar z1))), (aYc, .inl (gI g, 36, .inl (ar z2))), (aO, .inl (gl.1, 1, .inr (.inl lo)))] : va_W)) q_10.symm) q_11.symm) q_12.symm)
        rw [hQ9]
        exact x_iret hx hb hr hlocks hP hD hS (S := (Nat → Int64)) rfl dL_cast_24 lo (by
            first
            | (
               first | omega | (subst_vars; omega))
            | fail "q9") (by
            first
            | (
               intro h0
               first | (exfalso; omega) | ((try dsimp only); rw [zl_up]; subst_vars; rfl) | ((try dsimp only); rw [zl_up]; congr 1))
            | fail "q9") hw_13 (Nat.le_of_ble_eq_true rfl) (Nat.le_of_ble_eq_true rfl)
    · skip
      have hP : va_P (gD g) vwCl [(aR, .inr (10, [.ref aG, .ref aP, .ref aH, .ref aY, .ref aT, .ref aS, .ref aF, .ref aX, .int (iI pr), .int (iI tk), .int (iI tol), .int (iI hou)])), (aY, .inr (9, [.ref aYh, .ref aYt, .ref aYc])), (aYh, .inl (gI g, 3, .inl (ar (up ht sta (ht sta + 1))))), (aYt, .inl (gI g, 36, .inl (ar (up yt (sta * 12 + ht sta) nt)))), (aYc, .inl (gI g, 36, .inl (ar (up yc (sta * 12 + ht sta) hou)))), (aO, .inl (gl.1, 1, .inr (.inl lo)))] H := hP
      have hD : va_D A [(aR, .inr (10, [.ref aG, .ref aP, .ref aH, .ref aY, .ref aT, .ref aS, .ref aF, .ref aX, .int (iI pr), .int (iI tk), .int (iI tol), .int (iI hou)])), (aY, .inr (9, [.ref aYh, .ref aYt, .ref aYc])), (aYh, .inl (gI g, 3, .inl (ar (up ht sta (ht sta + 1))))), (aYt, .inl (gI g, 36, .inl (ar (up yt (sta * 12 + ht sta) nt)))), (aYc, .inl (gI g, 36, .inl (ar (up yc (sta * 12 + ht sta) hou)))), (aO, .inl (gl.1, 1, .inr (.inl lo)))] := hD
      have hv_1 : v_1 = ht sta + 1 := hv_1
      obtain ⟨tv_1, pv_1⟩ := pv_1
      have tv_1 : caT ht sta nt = 0 := tv_1
      refine x_i2z hx hb dL_cast_8 ?_
      refine va_last hx hb hL.1 hP hD hS 5 0 rfl rfl zl_in dL_cast_9 (fun H locs hP hD hS => ?_)
      have hP : va_P (gD g) vwCl [(aR, .inr (10, [.ref aG, .ref aP, .ref aH, .ref aY, .ref aT, .ref aS, .ref aF, .ref aX, .int (iI pr), .int (iI tk), .int (iI tol), .int (iI hou)])), (aY, .inr (9, [.ref aYh, .ref aYt, .ref aYc])), (aYh, .inl (gI g, 3, .inl (ar (up ht sta (ht sta + 1))))), (aYt, .inl (gI g, 36, .inl (ar (up yt (sta * 12 + ht sta) nt)))), (aYc, .inl (gI g, 36, .inl (ar (up yc (sta * 12 + ht sta) hou)))), (aO, .inl (gl.1, 1, .inr (.inl (vp_updL lo (iI 0).toNatClampNeg (zL v_1)))))] H := hP
      have hD : va_D A [(aR, .inr (10, [.ref aG, .ref aP, .ref aH, .ref aY, .ref aT, .ref aS, .ref aF, .ref aX, .int (iI pr), .int (iI tk), .int (iI tol), .int (iI hou)])), (aY, .inr (9, [.ref aYh, .ref aYt, .ref aYc])), (aYh, .inl (gI g, 3, .inl (ar (up ht sta (ht sta + 1))))), (aYt, .inl (gI g, 36, .inl (ar (up yt (sta * 12 + ht sta) nt)))), (aYc, .inl (gI g, 36, .inl (ar (up yc (sta * 12 + ht sta) hou)))), (aO, .inl (gl.1, 1, .inr (.inl (vp_updL lo (iI 0).toNatClampNeg (zL v_1)))))] := hD
      refine lv_goto (tgt := 25) hx hb dL_cast_10 (by decide) ?_
      refine x_iconst hx hb dL_cast_25 ?_
      have q_14 : (if caT ht sta nt = 0 then (up ht sta (ht sta + 1)) else ht) = (up ht sta (ht sta + 1)) := by
        first
        | (
           first | rfl | (rw [if_pos (by omega)]) | (rw [if_neg (by omega)]) | (rw [if_pos (by omega)]; subst_vars; rfl))
        | fail "q9"
      have q_15 : (if caT ht sta nt = 0 then (up yt (sta * 12 + ht sta) nt) else yt) = (up yt (sta * 12 + ht sta) nt) := by
        first
        | (
           first | rfl | (rw [if_pos (by omega)]) | (rw [if_neg (by omega)]) | (rw [if_pos (by omega)]; subst_vars; rfl))
        | fail "q9"
      have q_16 : (if caT ht sta nt = 0 then (up yc (sta * 12 + ht sta) hou) else yc) = (up yc (sta * 12 + ht sta) hou) := by
        first
        | (
           first | rfl | (rw [if_pos (by omega)]) | (rw [if_neg (by omega)]) | (rw [if_pos (by omega)]; subst_vars; rfl))
        | fail "q9"
      have hw_17 := (congr (congr (congrArg (fun (z0 : Int → Int) (z1 : Int → Int) (z2 : Int → Int) => ([(aR, .inr (10, [.ref aG, .ref aP, .ref aH, .ref aY, .ref aT, .ref aS, .ref aF, .ref aX, .int (iI pr), .int (iI tk), .int (iI tol), .int (iI hou)])), (aY, .inr (9, [.ref aYh, .ref aYt, .ref aYc])), (aYh, .inl (gI g, 3, .inl (ar z0))), (aYt, .inl (gI g, 36, .inl (ar z1))), (aYc, .inl (gI g, 36, .inl (ar z2))), (aO, .inl (gl.1, 1, .inr (.inl (vp_updL lo (iI 0).toNatClampNeg (zL v_1)))))] : va_W)) q_14.symm) q_15.symm) q_16.symm)
      rw [hQ9]
      exact x_iret hx hb hr hlocks hP hD hS (S := (Nat → Int64)) rfl dL_cast_26 (vp_updL lo (iI 0).toNatClampNeg (zL v_1)) (by
          first
          | (
             first | omega | (subst_vars; omega))
          | fail "q9") (by
          first
          | (
             intro h0
             first | (exfalso; omega) | ((try dsimp only); rw [zl_up]; subst_vars; rfl) | ((try dsimp only); rw [zl_up]; congr 1))
          | fail "q9") hw_17 (Nat.le_of_ble_eq_true rfl) (Nat.le_of_ble_eq_true rfl)
  rw [hH, hlo, hQ9] at goal_
  exact goal_

set_option maxHeartbeats 4000000 in
set_option maxRecDepth 100000 in
theorem c_L_heightOf (l : Launch) (hflags : l.stackTraces = false) (g : xg) (gl : ClassId × ClassId) (sz : Nat) (aR aG aP aH aY aT aS aF aX aYh aYt aYc aO : Nat) (pr tk tol hou sta : Int) (ht : Int → Int) (lo : Nat → Int64) (hb_ht : bnd ht 0 12) (hr_sta : iR sta) : Met l yL_heightOf wsL_heightOf { frames := 8, cells := 1, slots := 6, locals := 133 } (va_Pc [.ref aR, .int (iI sta), .ref aO] (xBL g gl [(aR, .inr (10, [.ref aG, .ref aP, .ref aH, .ref aY, .ref aT, .ref aS, .ref aF, .ref aX, .int (iI pr), .int (iI tk), .int (iI tol), .int (iI hou)])), (aY, .inr (9, [.ref aYh, .ref aYt, .ref aYc])), (aYh, .inl (gI g, 3, .inl (ar ht))), (aO, .inl (gl.1, 1, .inr (.inl lo)))] sz)) (va_Qi (fun r u => r = iI ((fun (u : (Nat → Int64)) => stT sta) u) ∧ (fun (u : (Nat → Int64)) => (stT sta = 0 → u 0 = zL (ht sta))) u) (fun u t => xE g (va_A [(aR, .inr (10, [.ref aG, .ref aP, .ref aH, .ref aY, .ref aT, .ref aS, .ref aF, .ref aX, .int (iI pr), .int (iI tk), .int (iI tol), .int (iI hou)])), (aY, .inr (9, [.ref aYh, .ref aYt, .ref aYc])), (aYh, .inl (gI g, 3, .inl (ar ht))), (aO, .inl (gl.1, 1, .inr (.inl lo)))] sz) ((fun (u : (Nat → Int64)) => [(aR, .inr (10, [.ref aG, .ref aP, .ref aH, .ref aY, .ref aT, .ref aS, .ref aF, .ref aX, .int (iI pr), .int (iI tk), .int (iI tol), .int (iI hou)])), (aY, .inr (9, [.ref aYh, .ref aYt, .ref aYc])), (aYh, .inl (gI g, 3, .inl (ar ht))), (aO, .inl (gl.1, 1, .inr (.inl u)))]) u) t) (va_A [(aR, .inr (10, [.ref aG, .ref aP, .ref aH, .ref aY, .ref aT, .ref aS, .ref aF, .ref aX, .int (iI pr), .int (iI tk), .int (iI tol), .int (iI hou)])), (aY, .inr (9, [.ref aYh, .ref aYt, .ref aYc])), (aYh, .inl (gI g, 3, .inl (ar ht))), (aO, .inl (gl.1, 1, .inr (.inl lo)))] sz)) 1 6 (va_A [(aR, .inr (10, [.ref aG, .ref aP, .ref aH, .ref aY, .ref aT, .ref aS, .ref aF, .ref aX, .int (iI pr), .int (iI tk), .int (iI tol), .int (iI hou)])), (aY, .inr (9, [.ref aYh, .ref aYt, .ref aYc])), (aYh, .inl (gI g, 3, .inl (ar ht))), (aO, .inl (gl.1, 1, .inr (.inl lo)))] sz) := by
  refine x_enterH (y := yL_heightOf) (ws := wsL_heightOf) (g := g) (sz := sz) (av := [.ref aR, .int (iI sta), .ref aO]) (WS := [(aR, .inr (10, [.ref aG, .ref aP, .ref aH, .ref aY, .ref aT, .ref aS, .ref aF, .ref aX, .int (iI pr), .int (iI tk), .int (iI tol), .int (iI hou)])), (aY, .inr (9, [.ref aYh, .ref aYt, .ref aYc])), (aYh, .inl (gI g, 3, .inl (ar ht))), (aO, .inl (gl.1, 1, .inr (.inl lo)))]) (cc := cL_heightOf) (maxL := 4) (ret := some .int) (Qc := (fun A => (va_Qi (fun r u => r = iI ((fun (u : (Nat → Int64)) => stT sta) u) ∧ (fun (u : (Nat → Int64)) => (stT sta = 0 → u 0 = zL (ht sta))) u) (fun u t => xE g A ((fun (u : (Nat → Int64)) => [(aR, .inr (10, [.ref aG, .ref aP, .ref aH, .ref aY, .ref aT, .ref aS, .ref aF, .ref aX, .int (iI pr), .int (iI tk), .int (iI tol), .int (iI hou)])), (aY, .inr (9, [.ref aYh, .ref aYt, .ref aYc])), (aYh, .inl (gI g, 3, .inl (ar ht))), (aO, .inl (gl.1, 1, .inr (.inl u)))]) u) t) A))) (by decide) rfl (Nat.le_of_ble_eq_true rfl) ?_
  intro p e s m args below meth c A ls hx hb hr hml hown hts hlocks htab hL hC hP hD hS hA hl
  have hK := hC.1
  have hown : s.vm.findClass RL = some m.cls := hown
  have hl : lv_has ls 4 [(0, .ref aR), (1, .int (iI sta)), (2, .ref aO)] := hl
  obtain ⟨H, hH⟩ : ∃ z, z = s.heap := ⟨_, rfl⟩
  obtain ⟨locs, hlo⟩ : ∃ z : List Loc, z = [] := ⟨_, rfl⟩
  obtain ⟨Q9, hQ9⟩ : ∃ z, z = MQ below (va_Qi (fun r u => r = iI ((fun (u : (Nat → Int64)) => stT sta) u) ∧ (fun (u : (Nat → Int64)) => (stT sta = 0 → u 0 = zL (ht sta))) u) (fun u t => xE g A ((fun (u : (Nat → Int64)) => [(aR, .inr (10, [.ref aG, .ref aP, .ref aH, .ref aY, .ref aT, .ref aS, .ref aF, .ref aX, .int (iI pr), .int (iI tk), .int (iI tol), .int (iI hou)])), (aY, .inr (9, [.ref aYh, .ref aYt, .ref aYc])), (aYh, .inl (gI g, 3, .inl (ar ht))), (aO, .inl (gl.1, 1, .inr (.inl u)))]) u) t) A) args s 1 6 A := ⟨_, rfl⟩
  have hP : va_P (gD g) vwCl [(aR, .inr (10, [.ref aG, .ref aP, .ref aH, .ref aY, .ref aT, .ref aS, .ref aF, .ref aX, .int (iI pr), .int (iI tk), .int (iI tol), .int (iI hou)])), (aY, .inr (9, [.ref aYh, .ref aYt, .ref aYc])), (aYh, .inl (gI g, 3, .inl (ar ht))), (aO, .inl (gl.1, 1, .inr (.inl lo)))] H := by rw [hH]; exact hP
  have hS : va_S A s.heap H locs := by rw [hH, hlo]; exact hS
  have goal_ : W p l e { frames := 8, cells := 1, slots := 6, locals := 133 } s m args below meth c H locs 0 0 Q9 (F0 m 0 ls []) := by
    clear hH hlo
    refine lv_aload_n hx hb dL_heightOf_0 rfl (lv_at hl 2 rfl) ?_
    refine x_iconst hx hb dL_heightOf_1 ?_
    refine lv_aload_n hx hb dL_heightOf_2 rfl (lv_at hl 0 rfl) ?_
    refine lv_iload_n hx hb dL_heightOf_3 rfl (lv_at hl 1 rfl) ?_
    refine x_calliX (S := Unit) (SX := Unit) (wc := [(aR, .inr (10, [.ref aG, .ref aP, .ref aH, .ref aY, .ref aT, .ref aS, .ref aF, .ref aX, .int (iI pr), .int (iI tk), .int (iI tol), .int (iI hou)])), (aY, .inr (9, [.ref aYh, .ref aYt, .ref aYc])), (aYh, .inl (gI g, 3, .inl (ar ht)))]) (wr := [(aO, .inl (gl.1, 1, .inr (.inl lo)))]) hC hP hD hS hA [0, 1, 2] [3] [1, 2, 3, 0] rfl rfl (fun hpre => vx_runV (As := [.int (iI sta)]) (rest := [.int (iI 0), .ref aO]) ⟨hx, hb, hml, hown, hts⟩ (c_X8_heightOf l hflags g H.size aR aG aP aH aY aT aS aF aX aYh aYt aYc pr tk tol hou sta ht (by first | (first | assumption | omega | exact bnd_up (by assumption) (by omega) (by omega)) | fail "q8") (by first | (first | assumption | omega | exact bnd_up (by assumption) (by omega) (by omega)) | fail "q8")) (cwV 1 hts gL_heightOf_X8_heightOf rfl rfl rfl (by decide +kernel) ⟨Nat.le_of_ble_eq_true rfl, Nat.le_of_ble_eq_true rfl⟩) ⟨xB_blind, va_recv hK hP (ci := 10) (q0 := 0) rfl rfl, hpre _⟩ rfl rfl hl.1 rfl (lv_room (Nat.le_of_ble_eq_true rfl)) dL_heightOf_4 ⟨Nat.le_of_ble_eq_true rfl, Nat.le_of_ble_eq_true rfl⟩) (fun (u : Unit) => [(aR, .inr (10, [.ref aG, .ref aP, .ref aH, .ref aY, .ref aT, .ref aS, .ref aF, .ref aX, .int (iI pr), .int (iI tk), .int (iI tol), .int (iI hou)])), (aY, .inr (9, [.ref aYh, .ref aYt, .ref aYc])), (aYh, .inl (gI g, 3, .inl (ar ht))), (aO, .inl (gl.1, 1, .inr (.inl lo)))]) (fun (u : Unit) => ([(aR, .inr (10, [.ref aG, .ref aP, .ref aH, .ref aY, .ref aT, .ref aS, .ref aF, .ref aX, .int (iI pr), .int (iI tk), .int (iI tol), .int (iI hou)])), (aY, .inr (9, [.ref aYh, .ref aYt, .ref aYc])), (aYh, .inl (gI g, 3, .inl (ar ht))), (aO, .inl (gl.1, 1, .inr (.inl lo)))] : va_W)) rfl rfl (by decide) (fun _ => rfl) (fun _ => rfl) rfl (fun E ce q9 u H locs hXP hPX hP hD hS hcell hv9 hcl => ?_) (fun u v_1 H locs hv_1 pv_1 hP hD hS => ?_)
    · skip
      have hP : va_P (gD g) vwCl [(aR, .inr (10, [.ref aG, .ref aP, .ref aH, .ref aY, .ref aT, .ref aS, .ref aF, .ref aX, .int (iI pr), .int (iI tk), .int (iI tol), .int (iI hou)])), (aY, .inr (9, [.ref aYh, .ref aYt, .ref aYc])), (aYh, .inl (gI g, 3, .inl (ar ht))), (aO, .inl (gl.1, 1, .inr (.inl lo)))] H := hP
      have hD : va_D A [(aR, .inr (10, [.ref aG, .ref aP, .ref aH, .ref aY, .ref aT, .ref aS, .ref aF, .ref aX, .int (iI pr), .int (iI tk), .int (iI tol), .int (iI hou)])), (aY, .inr (9, [.ref aYh, .ref aYt, .ref aYc])), (aYh, .inl (gI g, 3, .inl (ar ht))), (aO, .inl (gl.1, 1, .inr (.inl lo)))] := hD
      obtain ⟨hE, hp⟩ := hPX
      have hp : stT sta = 1 := hp
      subst hE
      refine vx_catch (E := "java/lang/IndexOutOfBoundsException") (name := "java/lang/IndexOutOfBoundsException") hown [] ⟨0, 9, 12, 24⟩ [] (by rw [htab]; rfl) (fun z hz => by cases hz) (by decide) (by decide) (hts (.classLink RL 24 "java/lang/IndexOutOfBoundsException") (List.mem_of_getElem? (i := 1) rfl)) (va_Nw.use rfl (hC.2.2.2.2.2.2.2.2.2.2.1 "java/lang/IndexOutOfBoundsException" (List.mem_of_getElem? (i := 2) rfl))) hcell hv9 hcl ?_
      refine lv_astore_n (lv' := [(3, .ref q9), (0, .ref aR), (1, .int (iI sta)), (2, .ref aO)]) hx hb dL_heightOf_12 rfl hl (by decide) rfl (fun ls hl => ?_)
      refine x_iconst hx hb dL_heightOf_13 ?_
      rw [hQ9]
      exact x_iret hx hb hr hlocks hP hD hS (S := (Nat → Int64)) rfl dL_heightOf_14 lo (by
          first
          | (
             first | omega | (subst_vars; omega))
          | fail "q9") (by
          first
          | (
             intro h0
             first | (exfalso; omega) | ((try dsimp only); rw [zl_up]; subst_vars; rfl) | ((try dsimp only); rw [zl_up]; congr 1))
          | fail "q9") rfl (Nat.le_of_ble_eq_true rfl) (Nat.le_of_ble_eq_true rfl)
    · skip
      have hP : va_P (gD g) vwCl [(aR, .inr (10, [.ref aG, .ref aP, .ref aH, .ref aY, .ref aT, .ref aS, .ref aF, .ref aX, .int (iI pr), .int (iI tk), .int (iI tol), .int (iI hou)])), (aY, .inr (9, [.ref aYh, .ref aYt, .ref aYc])), (aYh, .inl (gI g, 3, .inl (ar ht))), (aO, .inl (gl.1, 1, .inr (.inl lo)))] H := hP
      have hD : va_D A [(aR, .inr (10, [.ref aG, .ref aP, .ref aH, .ref aY, .ref aT, .ref aS, .ref aF, .ref aX, .int (iI pr), .int (iI tk), .int (iI tol), .int (iI hou)])), (aY, .inr (9, [.ref aYh, .ref aYt, .ref aYc])), (aYh, .inl (gI g, 3, .inl (ar ht))), (aO, .inl (gl.1, 1, .inr (.inl lo)))] := hD
      have hv_1 : v_1 = ht sta := hv_1
      obtain ⟨tv_1, pv_1⟩ := pv_1
      have tv_1 : stT sta = 0 := tv_1
      refine x_i2z hx hb dL_heightOf_7 ?_
      refine va_last hx hb hL.1 hP hD hS 3 0 rfl rfl zl_in dL_heightOf_8 (fun H locs hP hD hS => ?_)
      have hP : va_P (gD g) vwCl [(aR, .inr (10, [.ref aG, .ref aP, .ref aH, .ref aY, .ref aT, .ref aS, .ref aF, .ref aX, .int (iI pr), .int (iI tk), .int (iI tol), .int (iI hou)])), (aY, .inr (9, [.ref aYh, .ref aYt, .ref aYc])), (aYh, .inl (gI g, 3, .inl (ar ht))), (aO, .inl (gl.1, 1, .inr (.inl (vp_updL lo (iI 0).toNatClampNeg (zL v_1)))))] H := hP
      have hD : va_D A [(aR, .inr (10, [.ref aG, .ref aP, .ref aH, .ref aY, .ref aT, .ref aS, .ref aF, .ref aX, .int (iI pr), .int (iI tk), .int (iI tol), .int (iI hou)])), (aY, .inr (9, [.ref aYh, .ref aYt, .ref aYc])), (aYh, .inl (gI g, 3, .inl (ar ht))), (aO, .inl (gl.1, 1, .inr (.inl (vp_updL lo (iI 0).toNatClampNeg (zL v_1)))))] := hD
      refine lv_goto (tgt := 15) hx hb dL_heightOf_9 (by decide) ?_
      refine x_iconst hx hb dL_heightOf_15 ?_
      rw [hQ9]
      exact x_iret hx hb hr hlocks hP hD hS (S := (Nat → Int64)) rfl dL_heightOf_16 (vp_updL lo (iI 0).toNatClampNeg (zL v_1)) (by
          first
          | (
             first | omega | (subst_vars; omega))
          | fail "q9") (by
          first
          | (
             intro h0
             first | (exfalso; omega) | ((try dsimp only); rw [zl_up]; subst_vars; rfl) | ((try dsimp only); rw [zl_up]; congr 1))
          | fail "q9") rfl (Nat.le_of_ble_eq_true rfl) (Nat.le_of_ble_eq_true rfl)
  rw [hH, hlo, hQ9] at goal_
  exact goal_

set_option maxHeartbeats 4000000 in
set_option maxRecDepth 100000 in
theorem c_L_taperAt (l : Launch) (hflags : l.stackTraces = false) (g : xg) (gl : ClassId × ClassId) (sz : Nat) (aR aG aP aH aY aT aS aF aX aYh aYt aYc aO : Nat) (pr tk tol hou sta pl : Int) (ht yt : Int → Int) (lo : Nat → Int64) (hb_ht : bnd ht 0 12) (hr_sta : iR sta) (hr_pl : iR pl) : Met l yL_taperAt wsL_taperAt { frames := 8, cells := 2, slots := 12, locals := 134 } (va_Pc [.ref aR, .int (iI sta), .int (iI pl), .ref aO] (xBL g gl [(aR, .inr (10, [.ref aG, .ref aP, .ref aH, .ref aY, .ref aT, .ref aS, .ref aF, .ref aX, .int (iI pr), .int (iI tk), .int (iI tol), .int (iI hou)])), (aY, .inr (9, [.ref aYh, .ref aYt, .ref aYc])), (aYh, .inl (gI g, 3, .inl (ar ht))), (aYt, .inl (gI g, 36, .inl (ar yt))), (aO, .inl (gl.1, 1, .inr (.inl lo)))] sz)) (va_Qi (fun r u => r = iI ((fun (u : (Nat → Int64)) => taT ht sta pl) u) ∧ (fun (u : (Nat → Int64)) => (taT ht sta pl = 0 → u 0 = zL (yt (sta * 12 + pl)))) u) (fun u t => xE g (va_A [(aR, .inr (10, [.ref aG, .ref aP, .ref aH, .ref aY, .ref aT, .ref aS, .ref aF, .ref aX, .int (iI pr), .int (iI tk), .int (iI tol), .int (iI hou)])), (aY, .inr (9, [.ref aYh, .ref aYt, .ref aYc])), (aYh, .inl (gI g, 3, .inl (ar ht))), (aYt, .inl (gI g, 36, .inl (ar yt))), (aO, .inl (gl.1, 1, .inr (.inl lo)))] sz) ((fun (u : (Nat → Int64)) => [(aR, .inr (10, [.ref aG, .ref aP, .ref aH, .ref aY, .ref aT, .ref aS, .ref aF, .ref aX, .int (iI pr), .int (iI tk), .int (iI tol), .int (iI hou)])), (aY, .inr (9, [.ref aYh, .ref aYt, .ref aYc])), (aYh, .inl (gI g, 3, .inl (ar ht))), (aYt, .inl (gI g, 36, .inl (ar yt))), (aO, .inl (gl.1, 1, .inr (.inl u)))]) u) t) (va_A [(aR, .inr (10, [.ref aG, .ref aP, .ref aH, .ref aY, .ref aT, .ref aS, .ref aF, .ref aX, .int (iI pr), .int (iI tk), .int (iI tol), .int (iI hou)])), (aY, .inr (9, [.ref aYh, .ref aYt, .ref aYc])), (aYh, .inl (gI g, 3, .inl (ar ht))), (aYt, .inl (gI g, 36, .inl (ar yt))), (aO, .inl (gl.1, 1, .inr (.inl lo)))] sz)) 2 12 (va_A [(aR, .inr (10, [.ref aG, .ref aP, .ref aH, .ref aY, .ref aT, .ref aS, .ref aF, .ref aX, .int (iI pr), .int (iI tk), .int (iI tol), .int (iI hou)])), (aY, .inr (9, [.ref aYh, .ref aYt, .ref aYc])), (aYh, .inl (gI g, 3, .inl (ar ht))), (aYt, .inl (gI g, 36, .inl (ar yt))), (aO, .inl (gl.1, 1, .inr (.inl lo)))] sz) := by
  refine x_enterH (y := yL_taperAt) (ws := wsL_taperAt) (g := g) (sz := sz) (av := [.ref aR, .int (iI sta), .int (iI pl), .ref aO]) (WS := [(aR, .inr (10, [.ref aG, .ref aP, .ref aH, .ref aY, .ref aT, .ref aS, .ref aF, .ref aX, .int (iI pr), .int (iI tk), .int (iI tol), .int (iI hou)])), (aY, .inr (9, [.ref aYh, .ref aYt, .ref aYc])), (aYh, .inl (gI g, 3, .inl (ar ht))), (aYt, .inl (gI g, 36, .inl (ar yt))), (aO, .inl (gl.1, 1, .inr (.inl lo)))]) (cc := cL_taperAt) (maxL := 5) (ret := some .int) (Qc := (fun A => (va_Qi (fun r u => r = iI ((fun (u : (Nat → Int64)) => taT ht sta pl) u) ∧ (fun (u : (Nat → Int64)) => (taT ht sta pl = 0 → u 0 = zL (yt (sta * 12 + pl)))) u) (fun u t => xE g A ((fun (u : (Nat → Int64)) => [(aR, .inr (10, [.ref aG, .ref aP, .ref aH, .ref aY, .ref aT, .ref aS, .ref aF, .ref aX, .int (iI pr), .int (iI tk), .int (iI tol), .int (iI hou)])), (aY, .inr (9, [.ref aYh, .ref aYt, .ref aYc])), (aYh, .inl (gI g, 3, .inl (ar ht))), (aYt, .inl (gI g, 36, .inl (ar yt))), (aO, .inl (gl.1, 1, .inr (.inl u)))]) u) t) A))) (by decide) rfl (Nat.le_of_ble_eq_true rfl) ?_
  intro p e s m args below meth c A ls hx hb hr hml hown hts hlocks htab hL hC hP hD hS hA hl
  have hK := hC.1
  have hown : s.vm.findClass RL = some m.cls := hown
  have hl : lv_has ls 5 [(0, .ref aR), (1, .int (iI sta)), (2, .int (iI pl)), (3, .ref aO)] := hl
  obtain ⟨H, hH⟩ : ∃ z, z = s.heap := ⟨_, rfl⟩
  obtain ⟨locs, hlo⟩ : ∃ z : List Loc, z = [] := ⟨_, rfl⟩
  obtain ⟨Q9, hQ9⟩ : ∃ z, z = MQ below (va_Qi (fun r u => r = iI ((fun (u : (Nat → Int64)) => taT ht sta pl) u) ∧ (fun (u : (Nat → Int64)) => (taT ht sta pl = 0 → u 0 = zL (yt (sta * 12 + pl)))) u) (fun u t => xE g A ((fun (u : (Nat → Int64)) => [(aR, .inr (10, [.ref aG, .ref aP, .ref aH, .ref aY, .ref aT, .ref aS, .ref aF, .ref aX, .int (iI pr), .int (iI tk), .int (iI tol), .int (iI hou)])), (aY, .inr (9, [.ref aYh, .ref aYt, .ref aYc])), (aYh, .inl (gI g, 3, .inl (ar ht))), (aYt, .inl (gI g, 36, .inl (ar yt))), (aO, .inl (gl.1, 1, .inr (.inl u)))]) u) t) A) args s 2 12 A := ⟨_, rfl⟩
  have hP : va_P (gD g) vwCl [(aR, .inr (10, [.ref aG, .ref aP, .ref aH, .ref aY, .ref aT, .ref aS, .ref aF, .ref aX, .int (iI pr), .int (iI tk), .int (iI tol), .int (iI hou)])), (aY, .inr (9, [.ref aYh, .ref aYt, .ref aYc])), (aYh, .inl (gI g, 3, .inl (ar ht))), (aYt, .inl (gI g, 36, .inl (ar yt))), (aO, .inl (gl.1, 1, .inr (.inl lo)))] H := by rw [hH]; exact hP
  have hS : va_S A s.heap H locs := by rw [hH, hlo]; exact hS
  have goal_ : W p l e { frames := 8, cells := 2, slots := 12, locals := 134 } s m args below meth c H locs 0 0 Q9 (F0 m 0 ls []) := by
    clear hH hlo
    refine lv_aload_n hx hb dL_taperAt_0 rfl (lv_at hl 3 rfl) ?_
    refine x_iconst hx hb dL_taperAt_1 ?_
    refine lv_aload_n hx hb dL_taperAt_2 rfl (lv_at hl 0 rfl) ?_
    refine lv_iload_n hx hb dL_taperAt_3 rfl (lv_at hl 1 rfl) ?_
    refine lv_iload_n hx hb dL_taperAt_4 rfl (lv_at hl 2 rfl) ?_
    refine x_calliX (S := Unit) (SX := Unit) (wc := [(aR, .inr (10, [.ref aG, .ref aP, .ref aH, .ref aY, .ref aT, .ref aS, .ref aF, .ref aX, .int (iI pr), .int (iI tk), .int (iI tol), .int (iI hou)])), (aY, .inr (9, [.ref aYh, .ref aYt, .ref aYc])), (aYh, .inl (gI g, 3, .inl (ar ht))), (aYt, .inl (gI g, 36, .inl (ar yt)))]) (wr := [(aO, .inl (gl.1, 1, .inr (.inl lo)))]) hC hP hD hS hA [0, 1, 2, 3] [4] [1, 2, 3, 4, 0] rfl rfl (fun hpre => vx_runV (As := [.int (iI sta), .int (iI pl)]) (rest := [.int (iI 0), .ref aO]) ⟨hx, hb, hml, hown, hts⟩ (c_X8_taperAt l hflags g H.size aR aG aP aH aY aT aS aF aX aYh aYt aYc pr tk tol hou sta pl ht yt (by first | (first | assumption | omega | exact bnd_up (by assumption) (by omega) (by omega)) | fail "q8") (by first | (first | assumption | omega | exact bnd_up (by assumption) (by omega) (by omega)) | fail "q8") (by first | (first | assumption | omega | exact bnd_up (by assumption) (by omega) (by omega)) | fail "q8")) (cwV 2 hts gL_taperAt_X8_taperAt rfl rfl rfl (by decide +kernel) ⟨Nat.le_of_ble_eq_true rfl, Nat.le_of_ble_eq_true rfl⟩) ⟨xB_blind, va_recv hK hP (ci := 10) (q0 := 0) rfl rfl, hpre _⟩ rfl rfl hl.1 rfl (lv_room (Nat.le_of_ble_eq_true rfl)) dL_taperAt_5 ⟨Nat.le_of_ble_eq_true rfl, Nat.le_of_ble_eq_true rfl⟩) (fun (u : Unit) => [(aR, .inr (10, [.ref aG, .ref aP, .ref aH, .ref aY, .ref aT, .ref aS, .ref aF, .ref aX, .int (iI pr), .int (iI tk), .int (iI tol), .int (iI hou)])), (aY, .inr (9, [.ref aYh, .ref aYt, .ref aYc])), (aYh, .inl (gI g, 3, .inl (ar ht))), (aYt, .inl (gI g, 36, .inl (ar yt))), (aO, .inl (gl.1, 1, .inr (.inl lo)))]) (fun (u : Unit) => ([(aR, .inr (10, [.ref aG, .ref aP, .ref aH, .ref aY, .ref aT, .ref aS, .ref aF, .ref aX, .int (iI pr), .int (iI tk), .int (iI tol), .int (iI hou)])), (aY, .inr (9, [.ref aYh, .ref aYt, .ref aYc])), (aYh, .inl (gI g, 3, .inl (ar ht))), (aYt, .inl (gI g, 36, .inl (ar yt))), (aO, .inl (gl.1, 1, .inr (.inl lo)))] : va_W)) rfl rfl (by decide) (fun _ => rfl) (fun _ => rfl) rfl (fun E ce q9 u H locs hXP hPX hP hD hS hcell hv9 hcl => ?_) (fun u v_1 H locs hv_1 pv_1 hP hD hS => ?_)
    · skip
      have hP : va_P (gD g) vwCl [(aR, .inr (10, [.ref aG, .ref aP, .ref aH, .ref aY, .ref aT, .ref aS, .ref aF, .ref aX, .int (iI pr), .int (iI tk), .int (iI tol), .int (iI hou)])), (aY, .inr (9, [.ref aYh, .ref aYt, .ref aYc])), (aYh, .inl (gI g, 3, .inl (ar ht))), (aYt, .inl (gI g, 36, .inl (ar yt))), (aO, .inl (gl.1, 1, .inr (.inl lo)))] H := hP
      have hD : va_D A [(aR, .inr (10, [.ref aG, .ref aP, .ref aH, .ref aY, .ref aT, .ref aS, .ref aF, .ref aX, .int (iI pr), .int (iI tk), .int (iI tol), .int (iI hou)])), (aY, .inr (9, [.ref aYh, .ref aYt, .ref aYc])), (aYh, .inl (gI g, 3, .inl (ar ht))), (aYt, .inl (gI g, 36, .inl (ar yt))), (aO, .inl (gl.1, 1, .inr (.inl lo)))] := hD
      rcases hPX with ⟨hE, hp⟩ | ⟨hE, hp⟩
      · skip
        have hp : taT ht sta pl = 1 := hp
        subst hE
        refine vx_catch (E := "java/lang/IndexOutOfBoundsException") (name := "java/lang/IndexOutOfBoundsException") hown [] ⟨0, 10, 13, 24⟩ [⟨0, 10, 17, 43⟩] (by rw [htab]; rfl) (fun z hz => by cases hz) (by decide) (by decide) (hts (.classLink RL 24 "java/lang/IndexOutOfBoundsException") (List.mem_of_getElem? (i := 1) rfl)) (va_Nw.use rfl (hC.2.2.2.2.2.2.2.2.2.2.1 "java/lang/IndexOutOfBoundsException" (List.mem_of_getElem? (i := 2) rfl))) hcell hv9 hcl ?_
        refine lv_astore (lv' := [(4, .ref q9), (0, .ref aR), (1, .int (iI sta)), (2, .int (iI pl)), (3, .ref aO)]) hx hb dL_taperAt_13 hl (by decide) rfl (fun ls hl => ?_)
        refine x_iconst hx hb dL_taperAt_15 ?_
        rw [hQ9]
        exact x_iret hx hb hr hlocks hP hD hS (S := (Nat → Int64)) rfl dL_taperAt_16 lo (by
            first
            | (
               first | omega | (subst_vars; omega))
            | fail "q9") (by
            first
            | (
               intro h0
               first | (exfalso; omega) | ((try dsimp only); rw [zl_up]; subst_vars; rfl) | ((try dsimp only); rw [zl_up]; congr 1))
            | fail "q9") rfl (Nat.le_of_ble_eq_true rfl) (Nat.le_of_ble_eq_true rfl)
      · skip
        have hp : taT ht sta pl = 2 := hp
        subst hE
        refine vx_catch (E := "java/util/NoSuchElementException") (name := "java/util/NoSuchElementException") hown [⟨0, 10, 13, 24⟩] ⟨0, 10, 17, 43⟩ [] (by rw [htab]; rfl) (fun z hz => by rcases List.mem_cons.mp hz with rfl | hz; exact Or.inr ⟨by decide, "java/lang/IndexOutOfBoundsException", (hts (.classLink RL 24 "java/lang/IndexOutOfBoundsException") (List.mem_of_getElem? (i := 1) rfl)), hL.2 ("java/util/NoSuchElementException", "java/lang/IndexOutOfBoundsException") (List.mem_of_getElem? (i := 17) (by decide +kernel))⟩; cases hz) (by decide) (by decide) (hts (.classLink RL 43 "java/util/NoSuchElementException") (List.mem_of_getElem? (i := 2) rfl)) (va_Nw.use rfl (hC.2.2.2.2.2.2.2.2.2.2.1 "java/util/NoSuchElementException" (List.mem_of_getElem? (i := 3) rfl))) hcell hv9 hcl ?_
        refine lv_astore (lv' := [(4, .ref q9), (0, .ref aR), (1, .int (iI sta)), (2, .int (iI pl)), (3, .ref aO)]) hx hb dL_taperAt_17 hl (by decide) rfl (fun ls hl => ?_)
        refine x_iconst hx hb dL_taperAt_19 ?_
        rw [hQ9]
        exact x_iret hx hb hr hlocks hP hD hS (S := (Nat → Int64)) rfl dL_taperAt_20 lo (by
            first
            | (
               first | omega | (subst_vars; omega))
            | fail "q9") (by
            first
            | (
               intro h0
               first | (exfalso; omega) | ((try dsimp only); rw [zl_up]; subst_vars; rfl) | ((try dsimp only); rw [zl_up]; congr 1))
            | fail "q9") rfl (Nat.le_of_ble_eq_true rfl) (Nat.le_of_ble_eq_true rfl)
    · skip
      have hP : va_P (gD g) vwCl [(aR, .inr (10, [.ref aG, .ref aP, .ref aH, .ref aY, .ref aT, .ref aS, .ref aF, .ref aX, .int (iI pr), .int (iI tk), .int (iI tol), .int (iI hou)])), (aY, .inr (9, [.ref aYh, .ref aYt, .ref aYc])), (aYh, .inl (gI g, 3, .inl (ar ht))), (aYt, .inl (gI g, 36, .inl (ar yt))), (aO, .inl (gl.1, 1, .inr (.inl lo)))] H := hP
      have hD : va_D A [(aR, .inr (10, [.ref aG, .ref aP, .ref aH, .ref aY, .ref aT, .ref aS, .ref aF, .ref aX, .int (iI pr), .int (iI tk), .int (iI tol), .int (iI hou)])), (aY, .inr (9, [.ref aYh, .ref aYt, .ref aYc])), (aYh, .inl (gI g, 3, .inl (ar ht))), (aYt, .inl (gI g, 36, .inl (ar yt))), (aO, .inl (gl.1, 1, .inr (.inl lo)))] := hD
      have hv_1 : v_1 = yt (sta * 12 + pl) := hv_1
      obtain ⟨tv_1, pv_1⟩ := pv_1
      have tv_1 : taT ht sta pl = 0 := tv_1
      refine x_i2z hx hb dL_taperAt_8 ?_
      refine va_last hx hb hL.1 hP hD hS 4 0 rfl rfl zl_in dL_taperAt_9 (fun H locs hP hD hS => ?_)
      have hP : va_P (gD g) vwCl [(aR, .inr (10, [.ref aG, .ref aP, .ref aH, .ref aY, .ref aT, .ref aS, .ref aF, .ref aX, .int (iI pr), .int (iI tk), .int (iI tol), .int (iI hou)])), (aY, .inr (9, [.ref aYh, .ref aYt, .ref aYc])), (aYh, .inl (gI g, 3, .inl (ar ht))), (aYt, .inl (gI g, 36, .inl (ar yt))), (aO, .inl (gl.1, 1, .inr (.inl (vp_updL lo (iI 0).toNatClampNeg (zL v_1)))))] H := hP
      have hD : va_D A [(aR, .inr (10, [.ref aG, .ref aP, .ref aH, .ref aY, .ref aT, .ref aS, .ref aF, .ref aX, .int (iI pr), .int (iI tk), .int (iI tol), .int (iI hou)])), (aY, .inr (9, [.ref aYh, .ref aYt, .ref aYc])), (aYh, .inl (gI g, 3, .inl (ar ht))), (aYt, .inl (gI g, 36, .inl (ar yt))), (aO, .inl (gl.1, 1, .inr (.inl (vp_updL lo (iI 0).toNatClampNeg (zL v_1)))))] := hD
      refine lv_goto (tgt := 21) hx hb dL_taperAt_10 (by decide) ?_
      refine x_iconst hx hb dL_taperAt_21 ?_
      rw [hQ9]
      exact x_iret hx hb hr hlocks hP hD hS (S := (Nat → Int64)) rfl dL_taperAt_22 (vp_updL lo (iI 0).toNatClampNeg (zL v_1)) (by
          first
          | (
             first | omega | (subst_vars; omega))
          | fail "q9") (by
          first
          | (
             intro h0
             first | (exfalso; omega) | ((try dsimp only); rw [zl_up]; subst_vars; rfl) | ((try dsimp only); rw [zl_up]; congr 1))
          | fail "q9") rfl (Nat.le_of_ble_eq_true rfl) (Nat.le_of_ble_eq_true rfl)
  rw [hH, hlo, hQ9] at goal_
  exact goal_

set_option maxHeartbeats 4000000 in
set_option maxRecDepth 100000 in
theorem c_L_hoursToCure (l : Launch) (hflags : l.stackTraces = false) (g : xg) (gl : ClassId × ClassId) (sz : Nat) (aR aG aP aH aY aT aS aF aX aYh aYt aYc aO : Nat) (pr tk tol hou sta : Int) (ht yc : Int → Int) (lo : Nat → Int64) (hb_ht : bnd ht 0 12) (hhou : 0 ≤ hou ∧ hou ≤ 5000) (hb_yc : bnd yc 0 5000) (hr_sta : iR sta) : Met l yL_hoursToCure wsL_hoursToCure { frames := 8, cells := 2, slots := 12, locals := 135 } (va_Pc [.ref aR, .int (iI sta), .ref aO] (xBL g gl [(aR, .inr (10, [.ref aG, .ref aP, .ref aH, .ref aY, .ref aT, .ref aS, .ref aF, .ref aX, .int (iI pr), .int (iI tk), .int (iI tol), .int (iI hou)])), (aY, .inr (9, [.ref aYh, .ref aYt, .ref aYc])), (aYh, .inl (gI g, 3, .inl (ar ht))), (aYc, .inl (gI g, 36, .inl (ar yc))), (aO, .inl (gl.1, 1, .inr (.inl lo)))] sz)) (va_Qi (fun r u => r = iI ((fun (u : (Nat → Int64)) => emT ht sta) u) ∧ (fun (u : (Nat → Int64)) => (emT ht sta = 0 → u 0 = zL (mx 0 (yc (sta * 12 + (ht sta - 1)) + 24 - hou)))) u) (fun u t => xE g (va_A [(aR, .inr (10, [.ref aG, .ref aP, .ref aH, .ref aY, .ref aT, .ref aS, .ref aF, .ref aX, .int (iI pr), .int (iI tk), .int (iI tol), .int (iI hou)])), (aY, .inr (9, [.ref aYh, .ref aYt, .ref aYc])), (aYh, .inl (gI g, 3, .inl (ar ht))), (aYc, .inl (gI g, 36, .inl (ar yc))), (aO, .inl (gl.1, 1, .inr (.inl lo)))] sz) ((fun (u : (Nat → Int64)) => [(aR, .inr (10, [.ref aG, .ref aP, .ref aH, .ref aY, .ref aT, .ref aS, .ref aF, .ref aX, .int (iI pr), .int (iI tk), .int (iI tol), .int (iI hou)])), (aY, .inr (9, [.ref aYh, .ref aYt, .ref aYc])), (aYh, .inl (gI g, 3, .inl (ar ht))), (aYc, .inl (gI g, 36, .inl (ar yc))), (aO, .inl (gl.1, 1, .inr (.inl u)))]) u) t) (va_A [(aR, .inr (10, [.ref aG, .ref aP, .ref aH, .ref aY, .ref aT, .ref aS, .ref aF, .ref aX, .int (iI pr), .int (iI tk), .int (iI tol), .int (iI hou)])), (aY, .inr (9, [.ref aYh, .ref aYt, .ref aYc])), (aYh, .inl (gI g, 3, .inl (ar ht))), (aYc, .inl (gI g, 36, .inl (ar yc))), (aO, .inl (gl.1, 1, .inr (.inl lo)))] sz)) 2 12 (va_A [(aR, .inr (10, [.ref aG, .ref aP, .ref aH, .ref aY, .ref aT, .ref aS, .ref aF, .ref aX, .int (iI pr), .int (iI tk), .int (iI tol), .int (iI hou)])), (aY, .inr (9, [.ref aYh, .ref aYt, .ref aYc])), (aYh, .inl (gI g, 3, .inl (ar ht))), (aYc, .inl (gI g, 36, .inl (ar yc))), (aO, .inl (gl.1, 1, .inr (.inl lo)))] sz) := by
  refine x_enterH (y := yL_hoursToCure) (ws := wsL_hoursToCure) (g := g) (sz := sz) (av := [.ref aR, .int (iI sta), .ref aO]) (WS := [(aR, .inr (10, [.ref aG, .ref aP, .ref aH, .ref aY, .ref aT, .ref aS, .ref aF, .ref aX, .int (iI pr), .int (iI tk), .int (iI tol), .int (iI hou)])), (aY, .inr (9, [.ref aYh, .ref aYt, .ref aYc])), (aYh, .inl (gI g, 3, .inl (ar ht))), (aYc, .inl (gI g, 36, .inl (ar yc))), (aO, .inl (gl.1, 1, .inr (.inl lo)))]) (cc := cL_hoursToCure) (maxL := 4) (ret := some .int) (Qc := (fun A => (va_Qi (fun r u => r = iI ((fun (u : (Nat → Int64)) => emT ht sta) u) ∧ (fun (u : (Nat → Int64)) => (emT ht sta = 0 → u 0 = zL (mx 0 (yc (sta * 12 + (ht sta - 1)) + 24 - hou)))) u) (fun u t => xE g A ((fun (u : (Nat → Int64)) => [(aR, .inr (10, [.ref aG, .ref aP, .ref aH, .ref aY, .ref aT, .ref aS, .ref aF, .ref aX, .int (iI pr), .int (iI tk), .int (iI tol), .int (iI hou)])), (aY, .inr (9, [.ref aYh, .ref aYt, .ref aYc])), (aYh, .inl (gI g, 3, .inl (ar ht))), (aYc, .inl (gI g, 36, .inl (ar yc))), (aO, .inl (gl.1, 1, .inr (.inl u)))]) u) t) A))) (by decide) rfl (Nat.le_of_ble_eq_true rfl) ?_
  intro p e s m args below meth c A ls hx hb hr hml hown hts hlocks htab hL hC hP hD hS hA hl
  have hK := hC.1
  have hown : s.vm.findClass RL = some m.cls := hown
  have hl : lv_has ls 4 [(0, .ref aR), (1, .int (iI sta)), (2, .ref aO)] := hl
  obtain ⟨H, hH⟩ : ∃ z, z = s.heap := ⟨_, rfl⟩
  obtain ⟨locs, hlo⟩ : ∃ z : List Loc, z = [] := ⟨_, rfl⟩
  obtain ⟨Q9, hQ9⟩ : ∃ z, z = MQ below (va_Qi (fun r u => r = iI ((fun (u : (Nat → Int64)) => emT ht sta) u) ∧ (fun (u : (Nat → Int64)) => (emT ht sta = 0 → u 0 = zL (mx 0 (yc (sta * 12 + (ht sta - 1)) + 24 - hou)))) u) (fun u t => xE g A ((fun (u : (Nat → Int64)) => [(aR, .inr (10, [.ref aG, .ref aP, .ref aH, .ref aY, .ref aT, .ref aS, .ref aF, .ref aX, .int (iI pr), .int (iI tk), .int (iI tol), .int (iI hou)])), (aY, .inr (9, [.ref aYh, .ref aYt, .ref aYc])), (aYh, .inl (gI g, 3, .inl (ar ht))), (aYc, .inl (gI g, 36, .inl (ar yc))), (aO, .inl (gl.1, 1, .inr (.inl u)))]) u) t) A) args s 2 12 A := ⟨_, rfl⟩
  have hP : va_P (gD g) vwCl [(aR, .inr (10, [.ref aG, .ref aP, .ref aH, .ref aY, .ref aT, .ref aS, .ref aF, .ref aX, .int (iI pr), .int (iI tk), .int (iI tol), .int (iI hou)])), (aY, .inr (9, [.ref aYh, .ref aYt, .ref aYc])), (aYh, .inl (gI g, 3, .inl (ar ht))), (aYc, .inl (gI g, 36, .inl (ar yc))), (aO, .inl (gl.1, 1, .inr (.inl lo)))] H := by rw [hH]; exact hP
  have hS : va_S A s.heap H locs := by rw [hH, hlo]; exact hS
  have goal_ : W p l e { frames := 8, cells := 2, slots := 12, locals := 135 } s m args below meth c H locs 0 0 Q9 (F0 m 0 ls []) := by
    clear hH hlo
    refine lv_aload_n hx hb dL_hoursToCure_0 rfl (lv_at hl 2 rfl) ?_
    refine x_iconst hx hb dL_hoursToCure_1 ?_
    refine lv_aload_n hx hb dL_hoursToCure_2 rfl (lv_at hl 0 rfl) ?_
    refine lv_iload_n hx hb dL_hoursToCure_3 rfl (lv_at hl 1 rfl) ?_
    refine x_calliX (S := Unit) (SX := Unit) (wc := [(aR, .inr (10, [.ref aG, .ref aP, .ref aH, .ref aY, .ref aT, .ref aS, .ref aF, .ref aX, .int (iI pr), .int (iI tk), .int (iI tol), .int (iI hou)])), (aY, .inr (9, [.ref aYh, .ref aYt, .ref aYc])), (aYh, .inl (gI g, 3, .inl (ar ht))), (aYc, .inl (gI g, 36, .inl (ar yc)))]) (wr := [(aO, .inl (gl.1, 1, .inr (.inl lo)))]) hC hP hD hS hA [0, 1, 2, 3] [4] [1, 2, 3, 4, 0] rfl rfl (fun hpre => vx_runV (As := [.int (iI sta)]) (rest := [.int (iI 0), .ref aO]) ⟨hx, hb, hml, hown, hts⟩ (c_X8_hoursToCure l hflags g H.size aR aG aP aH aY aT aS aF aX aYh aYt aYc pr tk tol hou sta ht yc (by first | (first | assumption | omega | exact bnd_up (by assumption) (by omega) (by omega)) | fail "q8") (by first | (first | assumption | omega | exact bnd_up (by assumption) (by omega) (by omega)) | fail "q8") (by first | (first | assumption | omega | exact bnd_up (by assumption) (by omega) (by omega)) | fail "q8") (by first | (first | assumption | omega | exact bnd_up (by assumption) (by omega) (by omega)) | fail "q8")) (cwV 1 hts gL_hoursToCure_X8_hoursToCure rfl rfl rfl (by decide +kernel) ⟨Nat.le_of_ble_eq_true rfl, Nat.le_of_ble_eq_true rfl⟩) ⟨xB_blind, va_recv hK hP (ci := 10) (q0 := 0) rfl rfl, hpre _⟩ rfl rfl hl.1 rfl (lv_room (Nat.le_of_ble_eq_true rfl)) dL_hoursToCure_4 ⟨Nat.le_of_ble_eq_true rfl, Nat.le_of_ble_eq_true rfl⟩) (fun (u : Unit) => [(aR, .inr (10, [.ref aG, .ref aP, .ref aH, .ref aY, .ref aT, .ref aS, .ref aF, .ref aX, .int (iI pr), .int (iI tk), .int (iI tol), .int (iI hou)])), (aY, .inr (9, [.ref aYh, .ref aYt, .ref aYc])), (aYh, .inl (gI g, 3, .inl (ar ht))), (aYc, .inl (gI g, 36, .inl (ar yc))), (aO, .inl (gl.1, 1, .inr (.inl lo)))]) (fun (u : Unit) => ([(aR, .inr (10, [.ref aG, .ref aP, .ref aH, .ref aY, .ref aT, .ref aS, .ref aF, .ref aX, .int (iI pr), .int (iI tk), .int (iI tol), .int (iI hou)])), (aY, .inr (9, [.ref aYh, .ref aYt, .ref aYc])), (aYh, .inl (gI g, 3, .inl (ar ht))), (aYc, .inl (gI g, 36, .inl (ar yc))), (aO, .inl (gl.1, 1, .inr (.inl lo)))] : va_W)) rfl rfl (by decide) (fun _ => rfl) (fun _ => rfl) rfl (fun E ce q9 u H locs hXP hPX hP hD hS hcell hv9 hcl => ?_) (fun u v_1 H locs hv_1 pv_1 hP hD hS => ?_)
    · skip
      have hP : va_P (gD g) vwCl [(aR, .inr (10, [.ref aG, .ref aP, .ref aH, .ref aY, .ref aT, .ref aS, .ref aF, .ref aX, .int (iI pr), .int (iI tk), .int (iI tol), .int (iI hou)])), (aY, .inr (9, [.ref aYh, .ref aYt, .ref aYc])), (aYh, .inl (gI g, 3, .inl (ar ht))), (aYc, .inl (gI g, 36, .inl (ar yc))), (aO, .inl (gl.1, 1, .inr (.inl lo)))] H := hP
      have hD : va_D A [(aR, .inr (10, [.ref aG, .ref aP, .ref aH, .ref aY, .ref aT, .ref aS, .ref aF, .ref aX, .int (iI pr), .int (iI tk), .int (iI tol), .int (iI hou)])), (aY, .inr (9, [.ref aYh, .ref aYt, .ref aYc])), (aYh, .inl (gI g, 3, .inl (ar ht))), (aYc, .inl (gI g, 36, .inl (ar yc))), (aO, .inl (gl.1, 1, .inr (.inl lo)))] := hD
      rcases hPX with ⟨hE, hp⟩ | ⟨hE, hp⟩
      · skip
        have hp : emT ht sta = 1 := hp
        subst hE
        refine vx_catch (E := "java/lang/IndexOutOfBoundsException") (name := "java/lang/IndexOutOfBoundsException") hown [] ⟨0, 9, 12, 24⟩ [⟨0, 9, 15, 43⟩] (by rw [htab]; rfl) (fun z hz => by cases hz) (by decide) (by decide) (hts (.classLink RL 24 "java/lang/IndexOutOfBoundsException") (List.mem_of_getElem? (i := 1) rfl)) (va_Nw.use rfl (hC.2.2.2.2.2.2.2.2.2.2.1 "java/lang/IndexOutOfBoundsException" (List.mem_of_getElem? (i := 2) rfl))) hcell hv9 hcl ?_
        refine lv_astore_n (lv' := [(3, .ref q9), (0, .ref aR), (1, .int (iI sta)), (2, .ref aO)]) hx hb dL_hoursToCure_12 rfl hl (by decide) rfl (fun ls hl => ?_)
        refine x_iconst hx hb dL_hoursToCure_13 ?_
        rw [hQ9]
        exact x_iret hx hb hr hlocks hP hD hS (S := (Nat → Int64)) rfl dL_hoursToCure_14 lo (by
            first
            | (
               first | omega | (subst_vars; omega))
            | fail "q9") (by
            first
            | (
               intro h0
               first | (exfalso; omega) | ((try dsimp only); rw [zl_up]; subst_vars; rfl) | ((try dsimp only); rw [zl_up]; congr 1))
            | fail "q9") rfl (Nat.le_of_ble_eq_true rfl) (Nat.le_of_ble_eq_true rfl)
      · skip
        have hp : emT ht sta = 2 := hp
        subst hE
        refine vx_catch (E := "java/util/NoSuchElementException") (name := "java/util/NoSuchElementException") hown [⟨0, 9, 12, 24⟩] ⟨0, 9, 15, 43⟩ [] (by rw [htab]; rfl) (fun z hz => by rcases List.mem_cons.mp hz with rfl | hz; exact Or.inr ⟨by decide, "java/lang/IndexOutOfBoundsException", (hts (.classLink RL 24 "java/lang/IndexOutOfBoundsException") (List.mem_of_getElem? (i := 1) rfl)), hL.2 ("java/util/NoSuchElementException", "java/lang/IndexOutOfBoundsException") (List.mem_of_getElem? (i := 17) (by decide +kernel))⟩; cases hz) (by decide) (by decide) (hts (.classLink RL 43 "java/util/NoSuchElementException") (List.mem_of_getElem? (i := 2) rfl)) (va_Nw.use rfl (hC.2.2.2.2.2.2.2.2.2.2.1 "java/util/NoSuchElementException" (List.mem_of_getElem? (i := 3) rfl))) hcell hv9 hcl ?_
        refine lv_astore_n (lv' := [(3, .ref q9), (0, .ref aR), (1, .int (iI sta)), (2, .ref aO)]) hx hb dL_hoursToCure_15 rfl hl (by decide) rfl (fun ls hl => ?_)
        refine x_iconst hx hb dL_hoursToCure_16 ?_
        rw [hQ9]
        exact x_iret hx hb hr hlocks hP hD hS (S := (Nat → Int64)) rfl dL_hoursToCure_17 lo (by
            first
            | (
               first | omega | (subst_vars; omega))
            | fail "q9") (by
            first
            | (
               intro h0
               first | (exfalso; omega) | ((try dsimp only); rw [zl_up]; subst_vars; rfl) | ((try dsimp only); rw [zl_up]; congr 1))
            | fail "q9") rfl (Nat.le_of_ble_eq_true rfl) (Nat.le_of_ble_eq_true rfl)
    · skip
      have hP : va_P (gD g) vwCl [(aR, .inr (10, [.ref aG, .ref aP, .ref aH, .ref aY, .ref aT, .ref aS, .ref aF, .ref aX, .int (iI pr), .int (iI tk), .int (iI tol), .int (iI hou)])), (aY, .inr (9, [.ref aYh, .ref aYt, .ref aYc])), (aYh, .inl (gI g, 3, .inl (ar ht))), (aYc, .inl (gI g, 36, .inl (ar yc))), (aO, .inl (gl.1, 1, .inr (.inl lo)))] H := hP
      have hD : va_D A [(aR, .inr (10, [.ref aG, .ref aP, .ref aH, .ref aY, .ref aT, .ref aS, .ref aF, .ref aX, .int (iI pr), .int (iI tk), .int (iI tol), .int (iI hou)])), (aY, .inr (9, [.ref aYh, .ref aYt, .ref aYc])), (aYh, .inl (gI g, 3, .inl (ar ht))), (aYc, .inl (gI g, 36, .inl (ar yc))), (aO, .inl (gl.1, 1, .inr (.inl lo)))] := hD
      have hv_1 : v_1 = mx 0 (yc (sta * 12 + (ht sta - 1)) + 24 - hou) := hv_1
      obtain ⟨tv_1, pv_1⟩ := pv_1
      have tv_1 : emT ht sta = 0 := tv_1
      refine x_i2z hx hb dL_hoursToCure_7 ?_
      refine va_last hx hb hL.1 hP hD hS 4 0 rfl rfl zl_in dL_hoursToCure_8 (fun H locs hP hD hS => ?_)
      have hP : va_P (gD g) vwCl [(aR, .inr (10, [.ref aG, .ref aP, .ref aH, .ref aY, .ref aT, .ref aS, .ref aF, .ref aX, .int (iI pr), .int (iI tk), .int (iI tol), .int (iI hou)])), (aY, .inr (9, [.ref aYh, .ref aYt, .ref aYc])), (aYh, .inl (gI g, 3, .inl (ar ht))), (aYc, .inl (gI g, 36, .inl (ar yc))), (aO, .inl (gl.1, 1, .inr (.inl (vp_updL lo (iI 0).toNatClampNeg (zL v_1)))))] H := hP
      have hD : va_D A [(aR, .inr (10, [.ref aG, .ref aP, .ref aH, .ref aY, .ref aT, .ref aS, .ref aF, .ref aX, .int (iI pr), .int (iI tk), .int (iI tol), .int (iI hou)])), (aY, .inr (9, [.ref aYh, .ref aYt, .ref aYc])), (aYh, .inl (gI g, 3, .inl (ar ht))), (aYc, .inl (gI g, 36, .inl (ar yc))), (aO, .inl (gl.1, 1, .inr (.inl (vp_updL lo (iI 0).toNatClampNeg (zL v_1)))))] := hD
      refine lv_goto (tgt := 18) hx hb dL_hoursToCure_9 (by decide) ?_
      refine x_iconst hx hb dL_hoursToCure_18 ?_
      rw [hQ9]
      exact x_iret hx hb hr hlocks hP hD hS (S := (Nat → Int64)) rfl dL_hoursToCure_19 (vp_updL lo (iI 0).toNatClampNeg (zL v_1)) (by
          first
          | (
             first | omega | (subst_vars; omega))
          | fail "q9") (by
          first
          | (
             intro h0
             first | (exfalso; omega) | ((try dsimp only); rw [zl_up]; subst_vars; rfl) | ((try dsimp only); rw [zl_up]; congr 1))
          | fail "q9") rfl (Nat.le_of_ble_eq_true rfl) (Nat.le_of_ble_eq_true rfl)
  rw [hH, hlo, hQ9] at goal_
  exact goal_

set_option maxHeartbeats 4000000 in
set_option maxRecDepth 100000 in
theorem c_L_restack (l : Launch) (hflags : l.stackTraces = false) (g : xg) (gl : ClassId × ClassId) (sz : Nat) (aR aG aP aH aY aT aS aF aX aYh aYt aYc aO : Nat) (pr tk tol hou sta stb : Int) (ht yt yc : Int → Int) (lo : Nat → Int64) (hb_ht : bnd ht 0 12) (hr_sta : iR sta) (hr_stb : iR stb) : Met l yL_restack wsL_restack { frames := 8, cells := 4, slots := 24, locals := 136 } (va_Pc [.ref aR, .int (iI sta), .int (iI stb), .ref aO] (xBL g gl [(aR, .inr (10, [.ref aG, .ref aP, .ref aH, .ref aY, .ref aT, .ref aS, .ref aF, .ref aX, .int (iI pr), .int (iI tk), .int (iI tol), .int (iI hou)])), (aY, .inr (9, [.ref aYh, .ref aYt, .ref aYc])), (aYh, .inl (gI g, 3, .inl (ar ht))), (aYt, .inl (gI g, 36, .inl (ar yt))), (aYc, .inl (gI g, 36, .inl (ar yc))), (aO, .inl (gl.1, 1, .inr (.inl lo)))] sz)) (va_Qi (fun r u => r = iI ((fun (u : (Nat → Int64)) => reT ht sta stb) u) ∧ (fun (u : (Nat → Int64)) => (reT ht sta stb = 0 → u 0 = zL (rsH ht sta stb stb))) u) (fun u t => xE g (va_A [(aR, .inr (10, [.ref aG, .ref aP, .ref aH, .ref aY, .ref aT, .ref aS, .ref aF, .ref aX, .int (iI pr), .int (iI tk), .int (iI tol), .int (iI hou)])), (aY, .inr (9, [.ref aYh, .ref aYt, .ref aYc])), (aYh, .inl (gI g, 3, .inl (ar ht))), (aYt, .inl (gI g, 36, .inl (ar yt))), (aYc, .inl (gI g, 36, .inl (ar yc))), (aO, .inl (gl.1, 1, .inr (.inl lo)))] sz) ((fun (u : (Nat → Int64)) => [(aR, .inr (10, [.ref aG, .ref aP, .ref aH, .ref aY, .ref aT, .ref aS, .ref aF, .ref aX, .int (iI pr), .int (iI tk), .int (iI tol), .int (iI hou)])), (aY, .inr (9, [.ref aYh, .ref aYt, .ref aYc])), (aYh, .inl (gI g, 3, .inl (ar (if reT ht sta stb = 0 then (rsH ht sta stb) else ht)))), (aYt, .inl (gI g, 36, .inl (ar (if reT ht sta stb = 0 then (rsF ht yt sta stb) else yt)))), (aYc, .inl (gI g, 36, .inl (ar (if reT ht sta stb = 0 then (rsF ht yc sta stb) else yc)))), (aO, .inl (gl.1, 1, .inr (.inl u)))]) u) t) (va_A [(aR, .inr (10, [.ref aG, .ref aP, .ref aH, .ref aY, .ref aT, .ref aS, .ref aF, .ref aX, .int (iI pr), .int (iI tk), .int (iI tol), .int (iI hou)])), (aY, .inr (9, [.ref aYh, .ref aYt, .ref aYc])), (aYh, .inl (gI g, 3, .inl (ar ht))), (aYt, .inl (gI g, 36, .inl (ar yt))), (aYc, .inl (gI g, 36, .inl (ar yc))), (aO, .inl (gl.1, 1, .inr (.inl lo)))] sz)) 4 24 (va_A [(aR, .inr (10, [.ref aG, .ref aP, .ref aH, .ref aY, .ref aT, .ref aS, .ref aF, .ref aX, .int (iI pr), .int (iI tk), .int (iI tol), .int (iI hou)])), (aY, .inr (9, [.ref aYh, .ref aYt, .ref aYc])), (aYh, .inl (gI g, 3, .inl (ar ht))), (aYt, .inl (gI g, 36, .inl (ar yt))), (aYc, .inl (gI g, 36, .inl (ar yc))), (aO, .inl (gl.1, 1, .inr (.inl lo)))] sz) := by
  refine x_enterH (y := yL_restack) (ws := wsL_restack) (g := g) (sz := sz) (av := [.ref aR, .int (iI sta), .int (iI stb), .ref aO]) (WS := [(aR, .inr (10, [.ref aG, .ref aP, .ref aH, .ref aY, .ref aT, .ref aS, .ref aF, .ref aX, .int (iI pr), .int (iI tk), .int (iI tol), .int (iI hou)])), (aY, .inr (9, [.ref aYh, .ref aYt, .ref aYc])), (aYh, .inl (gI g, 3, .inl (ar ht))), (aYt, .inl (gI g, 36, .inl (ar yt))), (aYc, .inl (gI g, 36, .inl (ar yc))), (aO, .inl (gl.1, 1, .inr (.inl lo)))]) (cc := cL_restack) (maxL := 5) (ret := some .int) (Qc := (fun A => (va_Qi (fun r u => r = iI ((fun (u : (Nat → Int64)) => reT ht sta stb) u) ∧ (fun (u : (Nat → Int64)) => (reT ht sta stb = 0 → u 0 = zL (rsH ht sta stb stb))) u) (fun u t => xE g A ((fun (u : (Nat → Int64)) => [(aR, .inr (10, [.ref aG, .ref aP, .ref aH, .ref aY, .ref aT, .ref aS, .ref aF, .ref aX, .int (iI pr), .int (iI tk), .int (iI tol), .int (iI hou)])), (aY, .inr (9, [.ref aYh, .ref aYt, .ref aYc])), (aYh, .inl (gI g, 3, .inl (ar (if reT ht sta stb = 0 then (rsH ht sta stb) else ht)))), (aYt, .inl (gI g, 36, .inl (ar (if reT ht sta stb = 0 then (rsF ht yt sta stb) else yt)))), (aYc, .inl (gI g, 36, .inl (ar (if reT ht sta stb = 0 then (rsF ht yc sta stb) else yc)))), (aO, .inl (gl.1, 1, .inr (.inl u)))]) u) t) A))) (by decide) rfl (Nat.le_of_ble_eq_true rfl) ?_
  intro p e s m args below meth c A ls hx hb hr hml hown hts hlocks htab hL hC hP hD hS hA hl
  have hK := hC.1
  have hown : s.vm.findClass RL = some m.cls := hown
  have hl : lv_has ls 5 [(0, .ref aR), (1, .int (iI sta)), (2, .int (iI stb)), (3, .ref aO)] := hl
  obtain ⟨H, hH⟩ : ∃ z, z = s.heap := ⟨_, rfl⟩
  obtain ⟨locs, hlo⟩ : ∃ z : List Loc, z = [] := ⟨_, rfl⟩
  obtain ⟨Q9, hQ9⟩ : ∃ z, z = MQ below (va_Qi (fun r u => r = iI ((fun (u : (Nat → Int64)) => reT ht sta stb) u) ∧ (fun (u : (Nat → Int64)) => (reT ht sta stb = 0 → u 0 = zL (rsH ht sta stb stb))) u) (fun u t => xE g A ((fun (u : (Nat → Int64)) => [(aR, .inr (10, [.ref aG, .ref aP, .ref aH, .ref aY, .ref aT, .ref aS, .ref aF, .ref aX, .int (iI pr), .int (iI tk), .int (iI tol), .int (iI hou)])), (aY, .inr (9, [.ref aYh, .ref aYt, .ref aYc])), (aYh, .inl (gI g, 3, .inl (ar (if reT ht sta stb = 0 then (rsH ht sta stb) else ht)))), (aYt, .inl (gI g, 36, .inl (ar (if reT ht sta stb = 0 then (rsF ht yt sta stb) else yt)))), (aYc, .inl (gI g, 36, .inl (ar (if reT ht sta stb = 0 then (rsF ht yc sta stb) else yc)))), (aO, .inl (gl.1, 1, .inr (.inl u)))]) u) t) A) args s 4 24 A := ⟨_, rfl⟩
  have hP : va_P (gD g) vwCl [(aR, .inr (10, [.ref aG, .ref aP, .ref aH, .ref aY, .ref aT, .ref aS, .ref aF, .ref aX, .int (iI pr), .int (iI tk), .int (iI tol), .int (iI hou)])), (aY, .inr (9, [.ref aYh, .ref aYt, .ref aYc])), (aYh, .inl (gI g, 3, .inl (ar ht))), (aYt, .inl (gI g, 36, .inl (ar yt))), (aYc, .inl (gI g, 36, .inl (ar yc))), (aO, .inl (gl.1, 1, .inr (.inl lo)))] H := by rw [hH]; exact hP
  have hS : va_S A s.heap H locs := by rw [hH, hlo]; exact hS
  have goal_ : W p l e { frames := 8, cells := 4, slots := 24, locals := 136 } s m args below meth c H locs 0 0 Q9 (F0 m 0 ls []) := by
    clear hH hlo
    refine lv_aload_n hx hb dL_restack_0 rfl (lv_at hl 3 rfl) ?_
    refine x_iconst hx hb dL_restack_1 ?_
    refine lv_aload_n hx hb dL_restack_2 rfl (lv_at hl 0 rfl) ?_
    refine lv_iload_n hx hb dL_restack_3 rfl (lv_at hl 1 rfl) ?_
    refine lv_iload_n hx hb dL_restack_4 rfl (lv_at hl 2 rfl) ?_
    refine x_calliX (S := Unit) (SX := Unit) (wc := [(aR, .inr (10, [.ref aG, .ref aP, .ref aH, .ref aY, .ref aT, .ref aS, .ref aF, .ref aX, .int (iI pr), .int (iI tk), .int (iI tol), .int (iI hou)])), (aY, .inr (9, [.ref aYh, .ref aYt, .ref aYc])), (aYh, .inl (gI g, 3, .inl (ar ht))), (aYt, .inl (gI g, 36, .inl (ar yt))), (aYc, .inl (gI g, 36, .inl (ar yc)))]) (wr := [(aO, .inl (gl.1, 1, .inr (.inl lo)))]) hC hP hD hS hA [0, 1, 2, 3, 4] [5] [1, 2, 3, 4, 5, 0] rfl rfl (fun hpre => vx_runV (As := [.int (iI sta), .int (iI stb)]) (rest := [.int (iI 0), .ref aO]) ⟨hx, hb, hml, hown, hts⟩ (c_X8_restack l hflags g H.size aR aG aP aH aY aT aS aF aX aYh aYt aYc pr tk tol hou sta stb ht yt yc (by first | (first | assumption | omega | exact bnd_up (by assumption) (by omega) (by omega)) | fail "q8") (by first | (first | assumption | omega | exact bnd_up (by assumption) (by omega) (by omega)) | fail "q8") (by first | (first | assumption | omega | exact bnd_up (by assumption) (by omega) (by omega)) | fail "q8")) (cwV 2 hts gL_restack_X8_restack rfl rfl rfl (by decide +kernel) ⟨Nat.le_of_ble_eq_true rfl, Nat.le_of_ble_eq_true rfl⟩) ⟨xB_blind, va_recv hK hP (ci := 10) (q0 := 0) rfl rfl, hpre _⟩ rfl rfl hl.1 rfl (lv_room (Nat.le_of_ble_eq_true rfl)) dL_restack_5 ⟨Nat.le_of_ble_eq_true rfl, Nat.le_of_ble_eq_true rfl⟩) (fun (u : Unit) => [(aR, .inr (10, [.ref aG, .ref aP, .ref aH, .ref aY, .ref aT, .ref aS, .ref aF, .ref aX, .int (iI pr), .int (iI tk), .int (iI tol), .int (iI hou)])), (aY, .inr (9, [.ref aYh, .ref aYt, .ref aYc])), (aYh, .inl (gI g, 3, .inl (ar (rsH ht sta stb)))), (aYt, .inl (gI g, 36, .inl (ar (rsF ht yt sta stb)))), (aYc, .inl (gI g, 36, .inl (ar (rsF ht yc sta stb)))), (aO, .inl (gl.1, 1, .inr (.inl lo)))]) (fun (u : Unit) => ([(aR, .inr (10, [.ref aG, .ref aP, .ref aH, .ref aY, .ref aT, .ref aS, .ref aF, .ref aX, .int (iI pr), .int (iI tk), .int (iI tol), .int (iI hou)])), (aY, .inr (9, [.ref aYh, .ref aYt, .ref aYc])), (aYh, .inl (gI g, 3, .inl (ar ht))), (aYt, .inl (gI g, 36, .inl (ar yt))), (aYc, .inl (gI g, 36, .inl (ar yc))), (aO, .inl (gl.1, 1, .inr (.inl lo)))] : va_W)) rfl rfl (by decide) (fun _ => rfl) (fun _ => rfl) rfl (fun E ce q9 u H locs hXP hPX hP hD hS hcell hv9 hcl => ?_) (fun u v_1 H locs hv_1 pv_1 hP hD hS => ?_)
    · skip
      have hP : va_P (gD g) vwCl [(aR, .inr (10, [.ref aG, .ref aP, .ref aH, .ref aY, .ref aT, .ref aS, .ref aF, .ref aX, .int (iI pr), .int (iI tk), .int (iI tol), .int (iI hou)])), (aY, .inr (9, [.ref aYh, .ref aYt, .ref aYc])), (aYh, .inl (gI g, 3, .inl (ar ht))), (aYt, .inl (gI g, 36, .inl (ar yt))), (aYc, .inl (gI g, 36, .inl (ar yc))), (aO, .inl (gl.1, 1, .inr (.inl lo)))] H := hP
      have hD : va_D A [(aR, .inr (10, [.ref aG, .ref aP, .ref aH, .ref aY, .ref aT, .ref aS, .ref aF, .ref aX, .int (iI pr), .int (iI tk), .int (iI tol), .int (iI hou)])), (aY, .inr (9, [.ref aYh, .ref aYt, .ref aYc])), (aYh, .inl (gI g, 3, .inl (ar ht))), (aYt, .inl (gI g, 36, .inl (ar yt))), (aYc, .inl (gI g, 36, .inl (ar yc))), (aO, .inl (gl.1, 1, .inr (.inl lo)))] := hD
      rcases hPX with ⟨hE, hp⟩ | ⟨hE, hp⟩ | ⟨hE, hp⟩
      · skip
        have hp : reT ht sta stb = 1 := hp
        subst hE
        refine vx_catch (E := "java/lang/IndexOutOfBoundsException") (name := "java/lang/IndexOutOfBoundsException") hown [] ⟨0, 10, 13, 24⟩ [⟨0, 10, 17, 43⟩, ⟨0, 10, 21, 15⟩] (by rw [htab]; rfl) (fun z hz => by cases hz) (by decide) (by decide) (hts (.classLink RL 24 "java/lang/IndexOutOfBoundsException") (List.mem_of_getElem? (i := 1) rfl)) (va_Nw.use rfl (hC.2.2.2.2.2.2.2.2.2.2.1 "java/lang/IndexOutOfBoundsException" (List.mem_of_getElem? (i := 2) rfl))) hcell hv9 hcl ?_
        refine lv_astore (lv' := [(4, .ref q9), (0, .ref aR), (1, .int (iI sta)), (2, .int (iI stb)), (3, .ref aO)]) hx hb dL_restack_13 hl (by decide) rfl (fun ls hl => ?_)
        refine x_iconst hx hb dL_restack_15 ?_
        have q_2 : (if reT ht sta stb = 0 then (rsH ht sta stb) else ht) = ht := by
          first
          | (
             first | rfl | (rw [if_pos (by omega)]) | (rw [if_neg (by omega)]) | (rw [if_pos (by omega)]; subst_vars; rfl))
          | fail "q9"
        have q_3 : (if reT ht sta stb = 0 then (rsF ht yt sta stb) else yt) = yt := by
          first
          | (
             first | rfl | (rw [if_pos (by omega)]) | (rw [if_neg (by omega)]) | (rw [if_pos (by omega)]; subst_vars; rfl))
          | fail "q9"
        have q_4 : (if reT ht sta stb = 0 then (rsF ht yc sta stb) else yc) = yc := by
          first
          | (
             first | rfl | (rw [if_pos (by omega)]) | (rw [if_neg (by omega)]) | (rw [if_pos (by omega)]; subst_vars; rfl))
          | fail "q9"
        have hw_5 := (congr (congr (congrArg (fun (z0 : Int → Int) (z1 : Int → Int) (z2 : Int → Int) => ([(aR, .inr (10, [.ref aG, .ref aP, .ref aH, .ref aY, .ref aT, .ref aS, .ref aF, .ref aX, .int (iI pr), .int (iI tk), .int (iI tol), .int (iI hou)])), (aY, .inr (9, [.ref aYh, .ref aYt, .ref aYc])), (aYh, .inl (gI g, 3, .inl (ar z0))), (aYt, .inl (gI g, 36, .inl (ar z1))), (aYc, .inl (gI g, 36, .inl (ar z2))), (aO, .inl (gl.1, 1, .inr (.inl lo)))] : va_W)) q_2.symm) q_3.symm) q_4.symm)
        rw [hQ9]
        exact x_iret hx hb hr hlocks hP hD hS (S := (Nat → Int64)) rfl dL_restack_16 lo (by
            first
            | (
               first | omega | (subst_vars; omega))
            | fail "q9") (by
            first
            | (
               intro h0
               first | (exfalso; omega) | ((try dsimp only); rw [zl_up]; subst_vars; rfl) | ((try dsimp only); rw [zl_up]; congr 1))
            | fail "q9") hw_5 (Nat.le_of_ble_eq_true rfl) (Nat.le_of_ble_eq_true rfl)
      · skip
        have hp : reT ht sta stb = 2 := hp
        subst hE
        refine vx_catch (E := "java/util/NoSuchElementException") (name := "java/util/NoSuchElementException") hown [⟨0, 10, 13, 24⟩] ⟨0, 10, 17, 43⟩ [⟨0, 10, 21, 15⟩] (by rw [htab]; rfl) (fun z hz => by rcases List.mem_cons.mp hz with rfl | hz; exact Or.inr ⟨by decide, "java/lang/IndexOutOfBoundsException", (hts (.classLink RL 24 "java/lang/IndexOutOfBoundsException") (List.mem_of_getElem? (i := 1) rfl)), hL.2 ("java/util/NoSuchElementException", "java/lang/IndexOutOfBoundsException") (List.mem_of_getElem? (i := 17) (by decide +kernel))⟩; cases hz) (by decide) (by decide) (hts (.classLink RL 43 "java/util/NoSuchElementException") (List.mem_of_getElem? (i := 2) rfl)) (va_Nw.use rfl (hC.2.2.2.2.2.2.2.2.2.2.1 "java/util/NoSuchElementException" (List.mem_of_getElem? (i := 3) rfl))) hcell hv9 hcl ?_
        refine lv_astore (lv' := [(4, .ref q9), (0, .ref aR), (1, .int (iI sta)), (2, .int (iI stb)), (3, .ref aO)]) hx hb dL_restack_17 hl (by decide) rfl (fun ls hl => ?_)
        refine x_iconst hx hb dL_restack_19 ?_
        have q_6 : (if reT ht sta stb = 0 then (rsH ht sta stb) else ht) = ht := by
          first
          | (
             first | rfl | (rw [if_pos (by omega)]) | (rw [if_neg (by omega)]) | (rw [if_pos (by omega)]; subst_vars; rfl))
          | fail "q9"
        have q_7 : (if reT ht sta stb = 0 then (rsF ht yt sta stb) else yt) = yt := by
          first
          | (
             first | rfl | (rw [if_pos (by omega)]) | (rw [if_neg (by omega)]) | (rw [if_pos (by omega)]; subst_vars; rfl))
          | fail "q9"
        have q_8 : (if reT ht sta stb = 0 then (rsF ht yc sta stb) else yc) = yc := by
          first
          | (
             first | rfl | (rw [if_pos (by omega)]) | (rw [if_neg (by omega)]) | (rw [if_pos (by omega)]; subst_vars; rfl))
          | fail "q9"
        have hw_9 := (congr (congr (congrArg (fun (z0 : Int → Int) (z1 : Int → Int) (z2 : Int → Int) => ([(aR, .inr (10, [.ref aG, .ref aP, .ref aH, .ref aY, .ref aT, .ref aS, .ref aF, .ref aX, .int (iI pr), .int (iI tk), .int (iI tol), .int (iI hou)])), (aY, .inr (9, [.ref aYh, .ref aYt, .ref aYc])), (aYh, .inl (gI g, 3, .inl (ar z0))), (aYt, .inl (gI g, 36, .inl (ar z1))), (aYc, .inl (gI g, 36, .inl (ar z2))), (aO, .inl (gl.1, 1, .inr (.inl lo)))] : va_W)) q_6.symm) q_7.symm) q_8.symm)
        rw [hQ9]
        exact x_iret hx hb hr hlocks hP hD hS (S := (Nat → Int64)) rfl dL_restack_20 lo (by
            first
            | (
               first | omega | (subst_vars; omega))
            | fail "q9") (by
            first
            | (
               intro h0
               first | (exfalso; omega) | ((try dsimp only); rw [zl_up]; subst_vars; rfl) | ((try dsimp only); rw [zl_up]; congr 1))
            | fail "q9") hw_9 (Nat.le_of_ble_eq_true rfl) (Nat.le_of_ble_eq_true rfl)
      · skip
        have hp : reT ht sta stb = 3 := hp
        subst hE
        refine vx_catch (E := "java/lang/IllegalStateException") (name := "java/lang/IllegalStateException") hown [⟨0, 10, 13, 24⟩, ⟨0, 10, 17, 43⟩] ⟨0, 10, 21, 15⟩ [] (by rw [htab]; rfl) (fun z hz => by rcases List.mem_cons.mp hz with rfl | hz; exact Or.inr ⟨by decide, "java/lang/IndexOutOfBoundsException", (hts (.classLink RL 24 "java/lang/IndexOutOfBoundsException") (List.mem_of_getElem? (i := 1) rfl)), hL.2 ("java/lang/IllegalStateException", "java/lang/IndexOutOfBoundsException") (List.mem_of_getElem? (i := 6) (by decide +kernel))⟩; rcases List.mem_cons.mp hz with rfl | hz; exact Or.inr ⟨by decide, "java/util/NoSuchElementException", (hts (.classLink RL 43 "java/util/NoSuchElementException") (List.mem_of_getElem? (i := 2) rfl)), hL.2 ("java/lang/IllegalStateException", "java/util/NoSuchElementException") (List.mem_of_getElem? (i := 7) (by decide +kernel))⟩; cases hz) (by decide) (by decide) (hts (.classLink RL 15 "java/lang/IllegalStateException") (List.mem_of_getElem? (i := 3) rfl)) (va_Nw.use rfl (hC.2.2.2.2.2.2.2.2.2.2.1 "java/lang/IllegalStateException" (List.mem_of_getElem? (i := 1) rfl))) hcell hv9 hcl ?_
        refine lv_astore (lv' := [(4, .ref q9), (0, .ref aR), (1, .int (iI sta)), (2, .int (iI stb)), (3, .ref aO)]) hx hb dL_restack_21 hl (by decide) rfl (fun ls hl => ?_)
        refine x_iconst hx hb dL_restack_23 ?_
        have q_10 : (if reT ht sta stb = 0 then (rsH ht sta stb) else ht) = ht := by
          first
          | (
             first | rfl | (rw [if_pos (by omega)]) | (rw [if_neg (by omega)]) | (rw [if_pos (by omega)]; subst_vars; rfl))
          | fail "q9"
        have q_11 : (if reT ht sta stb = 0 then (rsF ht yt sta stb) else yt) = yt := by
          first
          | (
             first | rfl | (rw [if_pos (by omega)]) | (rw [if_neg (by omega)]) | (rw [if_pos (by omega)]; subst_vars; rfl))
          | fail "q9"
        have q_12 : (if reT ht sta stb = 0 then (rsF ht yc sta stb) else yc) = yc := by
          first
          | (
             first | rfl | (rw [if_pos (by omega)]) | (rw [if_neg (by omega)]) | (rw [if_pos (by omega)]; subst_vars; rfl))
          | fail "q9"
        have hw_13 := (congr (congr (congrArg (fun (z0 : Int → Int) (z1 : Int → Int) (z2 : Int → Int) => ([(aR, .inr (10, [.ref aG, .ref aP, .ref aH, .ref aY, .ref aT, .ref aS, .ref aF, .ref aX, .int (iI pr), .int (iI tk), .int (iI tol), .int (iI hou)])), (aY, .inr (9, [.ref aYh, .ref aYt, .ref aYc])), (aYh, .inl (gI g, 3, .inl (ar z0))), (aYt, .inl (gI g, 36, .inl (ar z1))), (aYc, .inl (gI g, 36, .inl (ar z2))), (aO, .inl (gl.1, 1, .inr (.inl lo)))] : va_W)) q_10.symm) q_11.symm) q_12.symm)
        rw [hQ9]
        exact x_iret hx hb hr hlocks hP hD hS (S := (Nat → Int64)) rfl dL_restack_24 lo (by
            first
            | (
               first | omega | (subst_vars; omega))
            | fail "q9") (by
            first
            | (
               intro h0
               first | (exfalso; omega) | ((try dsimp only); rw [zl_up]; subst_vars; rfl) | ((try dsimp only); rw [zl_up]; congr 1))
            | fail "q9") hw_13 (Nat.le_of_ble_eq_true rfl) (Nat.le_of_ble_eq_true rfl)
    · skip
      have hP : va_P (gD g) vwCl [(aR, .inr (10, [.ref aG, .ref aP, .ref aH, .ref aY, .ref aT, .ref aS, .ref aF, .ref aX, .int (iI pr), .int (iI tk), .int (iI tol), .int (iI hou)])), (aY, .inr (9, [.ref aYh, .ref aYt, .ref aYc])), (aYh, .inl (gI g, 3, .inl (ar (rsH ht sta stb)))), (aYt, .inl (gI g, 36, .inl (ar (rsF ht yt sta stb)))), (aYc, .inl (gI g, 36, .inl (ar (rsF ht yc sta stb)))), (aO, .inl (gl.1, 1, .inr (.inl lo)))] H := hP
      have hD : va_D A [(aR, .inr (10, [.ref aG, .ref aP, .ref aH, .ref aY, .ref aT, .ref aS, .ref aF, .ref aX, .int (iI pr), .int (iI tk), .int (iI tol), .int (iI hou)])), (aY, .inr (9, [.ref aYh, .ref aYt, .ref aYc])), (aYh, .inl (gI g, 3, .inl (ar (rsH ht sta stb)))), (aYt, .inl (gI g, 36, .inl (ar (rsF ht yt sta stb)))), (aYc, .inl (gI g, 36, .inl (ar (rsF ht yc sta stb)))), (aO, .inl (gl.1, 1, .inr (.inl lo)))] := hD
      have hv_1 : v_1 = rsH ht sta stb stb := hv_1
      obtain ⟨tv_1, pv_1⟩ := pv_1
      have tv_1 : reT ht sta stb = 0 := tv_1
      refine x_i2z hx hb dL_restack_8 ?_
      refine va_last hx hb hL.1 hP hD hS 5 0 rfl rfl zl_in dL_restack_9 (fun H locs hP hD hS => ?_)
      have hP : va_P (gD g) vwCl [(aR, .inr (10, [.ref aG, .ref aP, .ref aH, .ref aY, .ref aT, .ref aS, .ref aF, .ref aX, .int (iI pr), .int (iI tk), .int (iI tol), .int (iI hou)])), (aY, .inr (9, [.ref aYh, .ref aYt, .ref aYc])), (aYh, .inl (gI g, 3, .inl (ar (rsH ht sta stb)))), (aYt, .inl (gI g, 36, .inl (ar (rsF ht yt sta stb)))), (aYc, .inl (gI g, 36, .inl (ar (rsF ht yc sta stb)))), (aO, .inl (gl.1, 1, .inr (.inl (vp_updL lo (iI 0).toNatClampNeg (zL v_1)))))] H := hP
      have hD : va_D A [(aR, .inr (10, [.ref aG, .ref aP, .ref aH, .ref aY, .ref aT, .ref aS, .ref aF, .ref aX, .int (iI pr), .int (iI tk), .int (iI tol), .int (iI hou)])), (aY, .inr (9, [.ref aYh, .ref aYt, .ref aYc])), (aYh, .inl (gI g, 3, .inl (ar (rsH ht sta stb)))), (aYt, .inl (gI g, 36, .inl (ar (rsF ht yt sta stb)))), (aYc, .inl (gI g, 36, .inl (ar (rsF ht yc sta stb)))), (aO, .inl (gl.1, 1, .inr (.inl (vp_updL lo (iI 0).toNatClampNeg (zL v_1)))))] := hD
      refine lv_goto (tgt := 25) hx hb dL_restack_10 (by decide) ?_
      refine x_iconst hx hb dL_restack_25 ?_
      have q_14 : (if reT ht sta stb = 0 then (rsH ht sta stb) else ht) = (rsH ht sta stb) := by
        first
        | (
           first | rfl | (rw [if_pos (by omega)]) | (rw [if_neg (by omega)]) | (rw [if_pos (by omega)]; subst_vars; rfl))
        | fail "q9"
      have q_15 : (if reT ht sta stb = 0 then (rsF ht yt sta stb) else yt) = (rsF ht yt sta stb) := by
        first
        | (
           first | rfl | (rw [if_pos (by omega)]) | (rw [if_neg (by omega)]) | (rw [if_pos (by omega)]; subst_vars; rfl))
        | fail "q9"
      have q_16 : (if reT ht sta stb = 0 then (rsF ht yc sta stb) else yc) = (rsF ht yc sta stb) := by
        first
        | (
           first | rfl | (rw [if_pos (by omega)]) | (rw [if_neg (by omega)]) | (rw [if_pos (by omega)]; subst_vars; rfl))
        | fail "q9"
      have hw_17 := (congr (congr (congrArg (fun (z0 : Int → Int) (z1 : Int → Int) (z2 : Int → Int) => ([(aR, .inr (10, [.ref aG, .ref aP, .ref aH, .ref aY, .ref aT, .ref aS, .ref aF, .ref aX, .int (iI pr), .int (iI tk), .int (iI tol), .int (iI hou)])), (aY, .inr (9, [.ref aYh, .ref aYt, .ref aYc])), (aYh, .inl (gI g, 3, .inl (ar z0))), (aYt, .inl (gI g, 36, .inl (ar z1))), (aYc, .inl (gI g, 36, .inl (ar z2))), (aO, .inl (gl.1, 1, .inr (.inl (vp_updL lo (iI 0).toNatClampNeg (zL v_1)))))] : va_W)) q_14.symm) q_15.symm) q_16.symm)
      rw [hQ9]
      exact x_iret hx hb hr hlocks hP hD hS (S := (Nat → Int64)) rfl dL_restack_26 (vp_updL lo (iI 0).toNatClampNeg (zL v_1)) (by
          first
          | (
             first | omega | (subst_vars; omega))
          | fail "q9") (by
          first
          | (
             intro h0
             first | (exfalso; omega) | ((try dsimp only); rw [zl_up]; subst_vars; rfl) | ((try dsimp only); rw [zl_up]; congr 1))
          | fail "q9") hw_17 (Nat.le_of_ble_eq_true rfl) (Nat.le_of_ble_eq_true rfl)
  rw [hH, hlo, hQ9] at goal_
  exact goal_

set_option maxHeartbeats 4000000 in
set_option maxRecDepth 100000 in
theorem c_L_setPressure (l : Launch) (hflags : l.stackTraces = false) (g : xg) (gl : ClassId × ClassId) (sz : Nat) (aR aG aP aH aY aT aS aF aX aO : Nat) (pr tk tol hou pre : Int) (lo : Nat → Int64) (hpr : 0 ≤ pr ∧ pr ≤ 100) (hr_pre : iR pre) : Met l yL_setPressure wsL_setPressure { frames := 8, cells := 1, slots := 6, locals := 136 } (va_Pc [.ref aR, .int (iI pre), .ref aO] (xBL g gl [(aR, .inr (10, [.ref aG, .ref aP, .ref aH, .ref aY, .ref aT, .ref aS, .ref aF, .ref aX, .int (iI pr), .int (iI tk), .int (iI tol), .int (iI hou)])), (aO, .inl (gl.1, 1, .inr (.inl lo)))] sz)) (va_Qi (fun r u => r = iI ((fun (u : (Nat → Int64)) => inT 0 100 pre) u) ∧ (fun (u : (Nat → Int64)) => (inT 0 100 pre = 0 → u 0 = zL pr)) u) (fun u t => xE g (va_A [(aR, .inr (10, [.ref aG, .ref aP, .ref aH, .ref aY, .ref aT, .ref aS, .ref aF, .ref aX, .int (iI pr), .int (iI tk), .int (iI tol), .int (iI hou)])), (aO, .inl (gl.1, 1, .inr (.inl lo)))] sz) ((fun (u : (Nat → Int64)) => [(aR, .inr (10, [.ref aG, .ref aP, .ref aH, .ref aY, .ref aT, .ref aS, .ref aF, .ref aX, .int (iI (if inT 0 100 pre = 0 then pre else pr)), .int (iI tk), .int (iI tol), .int (iI hou)])), (aO, .inl (gl.1, 1, .inr (.inl u)))]) u) t) (va_A [(aR, .inr (10, [.ref aG, .ref aP, .ref aH, .ref aY, .ref aT, .ref aS, .ref aF, .ref aX, .int (iI pr), .int (iI tk), .int (iI tol), .int (iI hou)])), (aO, .inl (gl.1, 1, .inr (.inl lo)))] sz)) 1 6 (va_A [(aR, .inr (10, [.ref aG, .ref aP, .ref aH, .ref aY, .ref aT, .ref aS, .ref aF, .ref aX, .int (iI pr), .int (iI tk), .int (iI tol), .int (iI hou)])), (aO, .inl (gl.1, 1, .inr (.inl lo)))] sz) := by
  refine x_enterH (y := yL_setPressure) (ws := wsL_setPressure) (g := g) (sz := sz) (av := [.ref aR, .int (iI pre), .ref aO]) (WS := [(aR, .inr (10, [.ref aG, .ref aP, .ref aH, .ref aY, .ref aT, .ref aS, .ref aF, .ref aX, .int (iI pr), .int (iI tk), .int (iI tol), .int (iI hou)])), (aO, .inl (gl.1, 1, .inr (.inl lo)))]) (cc := cL_setPressure) (maxL := 4) (ret := some .int) (Qc := (fun A => (va_Qi (fun r u => r = iI ((fun (u : (Nat → Int64)) => inT 0 100 pre) u) ∧ (fun (u : (Nat → Int64)) => (inT 0 100 pre = 0 → u 0 = zL pr)) u) (fun u t => xE g A ((fun (u : (Nat → Int64)) => [(aR, .inr (10, [.ref aG, .ref aP, .ref aH, .ref aY, .ref aT, .ref aS, .ref aF, .ref aX, .int (iI (if inT 0 100 pre = 0 then pre else pr)), .int (iI tk), .int (iI tol), .int (iI hou)])), (aO, .inl (gl.1, 1, .inr (.inl u)))]) u) t) A))) (by decide) rfl (Nat.le_of_ble_eq_true rfl) ?_
  intro p e s m args below meth c A ls hx hb hr hml hown hts hlocks htab hL hC hP hD hS hA hl
  have hK := hC.1
  have hown : s.vm.findClass RL = some m.cls := hown
  have hl : lv_has ls 4 [(0, .ref aR), (1, .int (iI pre)), (2, .ref aO)] := hl
  obtain ⟨H, hH⟩ : ∃ z, z = s.heap := ⟨_, rfl⟩
  obtain ⟨locs, hlo⟩ : ∃ z : List Loc, z = [] := ⟨_, rfl⟩
  obtain ⟨Q9, hQ9⟩ : ∃ z, z = MQ below (va_Qi (fun r u => r = iI ((fun (u : (Nat → Int64)) => inT 0 100 pre) u) ∧ (fun (u : (Nat → Int64)) => (inT 0 100 pre = 0 → u 0 = zL pr)) u) (fun u t => xE g A ((fun (u : (Nat → Int64)) => [(aR, .inr (10, [.ref aG, .ref aP, .ref aH, .ref aY, .ref aT, .ref aS, .ref aF, .ref aX, .int (iI (if inT 0 100 pre = 0 then pre else pr)), .int (iI tk), .int (iI tol), .int (iI hou)])), (aO, .inl (gl.1, 1, .inr (.inl u)))]) u) t) A) args s 1 6 A := ⟨_, rfl⟩
  have hP : va_P (gD g) vwCl [(aR, .inr (10, [.ref aG, .ref aP, .ref aH, .ref aY, .ref aT, .ref aS, .ref aF, .ref aX, .int (iI pr), .int (iI tk), .int (iI tol), .int (iI hou)])), (aO, .inl (gl.1, 1, .inr (.inl lo)))] H := by rw [hH]; exact hP
  have hS : va_S A s.heap H locs := by rw [hH, hlo]; exact hS
  have goal_ : W p l e { frames := 8, cells := 1, slots := 6, locals := 136 } s m args below meth c H locs 0 0 Q9 (F0 m 0 ls []) := by
    clear hH hlo
    refine lv_aload_n hx hb dL_setPressure_0 rfl (lv_at hl 2 rfl) ?_
    refine x_iconst hx hb dL_setPressure_1 ?_
    refine lv_aload_n hx hb dL_setPressure_2 rfl (lv_at hl 0 rfl) ?_
    refine lv_iload_n hx hb dL_setPressure_3 rfl (lv_at hl 1 rfl) ?_
    refine x_calliX (S := Unit) (SX := Unit) (wc := [(aR, .inr (10, [.ref aG, .ref aP, .ref aH, .ref aY, .ref aT, .ref aS, .ref aF, .ref aX, .int (iI pr), .int (iI tk), .int (iI tol), .int (iI hou)]))]) (wr := [(aO, .inl (gl.1, 1, .inr (.inl lo)))]) hC hP hD hS hA [0] [1] [1, 0] rfl rfl (fun hpre => vx_runV (As := [.int (iI pre)]) (rest := [.int (iI 0), .ref aO]) ⟨hx, hb, hml, hown, hts⟩ (c_X8_setPressure l hflags g H.size aR aG aP aH aY aT aS aF aX pr tk tol hou pre (by first | (first | assumption | omega | exact bnd_up (by assumption) (by omega) (by omega)) | fail "q8") (by first | (first | assumption | omega | exact bnd_up (by assumption) (by omega) (by omega)) | fail "q8")) (cwV 1 hts gL_setPressure_X8_setPressure rfl rfl rfl (by decide +kernel) ⟨Nat.le_of_ble_eq_true rfl, Nat.le_of_ble_eq_true rfl⟩) ⟨xB_blind, va_recv hK hP (ci := 10) (q0 := 0) rfl rfl, hpre _⟩ rfl rfl hl.1 rfl (lv_room (Nat.le_of_ble_eq_true rfl)) dL_setPressure_4 ⟨Nat.le_of_ble_eq_true rfl, Nat.le_of_ble_eq_true rfl⟩) (fun (u : Unit) => [(aR, .inr (10, [.ref aG, .ref aP, .ref aH, .ref aY, .ref aT, .ref aS, .ref aF, .ref aX, .int (iI pre), .int (iI tk), .int (iI tol), .int (iI hou)])), (aO, .inl (gl.1, 1, .inr (.inl lo)))]) (fun (u : Unit) => ([(aR, .inr (10, [.ref aG, .ref aP, .ref aH, .ref aY, .ref aT, .ref aS, .ref aF, .ref aX, .int (iI pr), .int (iI tk), .int (iI tol), .int (iI hou)])), (aO, .inl (gl.1, 1, .inr (.inl lo)))] : va_W)) rfl rfl (by decide) (fun _ => rfl) (fun _ => rfl) rfl (fun E ce q9 u H locs hXP hPX hP hD hS hcell hv9 hcl => ?_) (fun u v_1 H locs hv_1 pv_1 hP hD hS => ?_)
    · skip
      have hP : va_P (gD g) vwCl [(aR, .inr (10, [.ref aG, .ref aP, .ref aH, .ref aY, .ref aT, .ref aS, .ref aF, .ref aX, .int (iI pr), .int (iI tk), .int (iI tol), .int (iI hou)])), (aO, .inl (gl.1, 1, .inr (.inl lo)))] H := hP
      have hD : va_D A [(aR, .inr (10, [.ref aG, .ref aP, .ref aH, .ref aY, .ref aT, .ref aS, .ref aF, .ref aX, .int (iI pr), .int (iI tk), .int (iI tol), .int (iI hou)])), (aO, .inl (gl.1, 1, .inr (.inl lo)))] := hD
      obtain ⟨hE, hp⟩ := hPX
      have hp : inT 0 100 pre = 1 := hp
      subst hE
      refine vx_catch (E := "java/lang/IllegalArgumentException") (name := "java/lang/IllegalArgumentException") hown [] ⟨0, 9, 12, 13⟩ [] (by rw [htab]; rfl) (fun z hz => by cases hz) (by decide) (by decide) (hts (.classLink RL 13 "java/lang/IllegalArgumentException") (List.mem_of_getElem? (i := 1) rfl)) (va_Nw.use rfl (hC.2.2.2.2.2.2.2.2.2.2.1 "java/lang/IllegalArgumentException" (List.mem_of_getElem? (i := 0) rfl))) hcell hv9 hcl ?_
      refine lv_astore_n (lv' := [(3, .ref q9), (0, .ref aR), (1, .int (iI pre)), (2, .ref aO)]) hx hb dL_setPressure_12 rfl hl (by decide) rfl (fun ls hl => ?_)
      refine x_iconst hx hb dL_setPressure_13 ?_
      have q_2 : (if inT 0 100 pre = 0 then pre else pr) = pr := by
        first
        | (
           first | rfl | (rw [if_pos (by omega)]) | (rw [if_neg (by omega)]) | (rw [if_pos (by omega)]; subst_vars; rfl))
        | fail "q9"
      have hw_3 := (congrArg (fun (z0 : Int) => ([(aR, .inr (10, [.ref aG, .ref aP, .ref aH, .ref aY, .ref aT, .ref aS, .ref aF, .ref aX, .int (iI z0), .int (iI tk), .int (iI tol), .int (iI hou)])), (aO, .inl (gl.1, 1, .inr (.inl lo)))] : va_W)) q_2.symm)
      rw [hQ9]
      exact x_iret hx hb hr hlocks hP hD hS (S := (Nat → Int64)) rfl dL_setPressure_14 lo (by
          first
          | (
             first | omega | (subst_vars; omega))
          | fail "q9") (by
          first
          | (
             intro h0
             first | (exfalso; omega) | ((try dsimp only); rw [zl_up]; subst_vars; rfl) | ((try dsimp only); rw [zl_up]; congr 1))
          | fail "q9") hw_3 (Nat.le_of_ble_eq_true rfl) (Nat.le_of_ble_eq_true rfl)
    · skip
      have hP : va_P (gD g) vwCl [(aR, .inr (10, [.ref aG, .ref aP, .ref aH, .ref aY, .ref aT, .ref aS, .ref aF, .ref aX, .int (iI pre), .int (iI tk), .int (iI tol), .int (iI hou)])), (aO, .inl (gl.1, 1, .inr (.inl lo)))] H := hP
      have hD : va_D A [(aR, .inr (10, [.ref aG, .ref aP, .ref aH, .ref aY, .ref aT, .ref aS, .ref aF, .ref aX, .int (iI pre), .int (iI tk), .int (iI tol), .int (iI hou)])), (aO, .inl (gl.1, 1, .inr (.inl lo)))] := hD
      have hv_1 : v_1 = pr := hv_1
      obtain ⟨tv_1, pv_1⟩ := pv_1
      have tv_1 : inT 0 100 pre = 0 := tv_1
      refine x_i2z hx hb dL_setPressure_7 ?_
      refine va_last hx hb hL.1 hP hD hS 1 0 rfl rfl zl_in dL_setPressure_8 (fun H locs hP hD hS => ?_)
      have hP : va_P (gD g) vwCl [(aR, .inr (10, [.ref aG, .ref aP, .ref aH, .ref aY, .ref aT, .ref aS, .ref aF, .ref aX, .int (iI pre), .int (iI tk), .int (iI tol), .int (iI hou)])), (aO, .inl (gl.1, 1, .inr (.inl (vp_updL lo (iI 0).toNatClampNeg (zL v_1)))))] H := hP
      have hD : va_D A [(aR, .inr (10, [.ref aG, .ref aP, .ref aH, .ref aY, .ref aT, .ref aS, .ref aF, .ref aX, .int (iI pre), .int (iI tk), .int (iI tol), .int (iI hou)])), (aO, .inl (gl.1, 1, .inr (.inl (vp_updL lo (iI 0).toNatClampNeg (zL v_1)))))] := hD
      refine lv_goto (tgt := 15) hx hb dL_setPressure_9 (by decide) ?_
      refine x_iconst hx hb dL_setPressure_15 ?_
      have q_4 : (if inT 0 100 pre = 0 then pre else pr) = pre := by
        first
        | (
           first | rfl | (rw [if_pos (by omega)]) | (rw [if_neg (by omega)]) | (rw [if_pos (by omega)]; subst_vars; rfl))
        | fail "q9"
      have hw_5 := (congrArg (fun (z0 : Int) => ([(aR, .inr (10, [.ref aG, .ref aP, .ref aH, .ref aY, .ref aT, .ref aS, .ref aF, .ref aX, .int (iI z0), .int (iI tk), .int (iI tol), .int (iI hou)])), (aO, .inl (gl.1, 1, .inr (.inl (vp_updL lo (iI 0).toNatClampNeg (zL v_1)))))] : va_W)) q_4.symm)
      rw [hQ9]
      exact x_iret hx hb hr hlocks hP hD hS (S := (Nat → Int64)) rfl dL_setPressure_16 (vp_updL lo (iI 0).toNatClampNeg (zL v_1)) (by
          first
          | (
             first | omega | (subst_vars; omega))
          | fail "q9") (by
          first
          | (
             intro h0
             first | (exfalso; omega) | ((try dsimp only); rw [zl_up]; subst_vars; rfl) | ((try dsimp only); rw [zl_up]; congr 1))
          | fail "q9") hw_5 (Nat.le_of_ble_eq_true rfl) (Nat.le_of_ble_eq_true rfl)
  rw [hH, hlo, hQ9] at goal_
  exact goal_

set_option maxHeartbeats 4000000 in
set_option maxRecDepth 100000 in
theorem c_L_addSlurry (l : Launch) (hflags : l.stackTraces = false) (g : xg) (gl : ClassId × ClassId) (sz : Nat) (aR aG aP aH aY aT aS aF aX aO : Nat) (pr tk tol hou vo : Int) (lo : Nat → Int64) (htk : 0 ≤ tk ∧ tk ≤ 1000) (hr_vo : iR vo) : Met l yL_addSlurry wsL_addSlurry { frames := 8, cells := 2, slots := 12, locals := 135 } (va_Pc [.ref aR, .int (iI vo), .ref aO] (xBL g gl [(aR, .inr (10, [.ref aG, .ref aP, .ref aH, .ref aY, .ref aT, .ref aS, .ref aF, .ref aX, .int (iI pr), .int (iI tk), .int (iI tol), .int (iI hou)])), (aO, .inl (gl.1, 1, .inr (.inl lo)))] sz)) (va_Qi (fun r u => r = iI ((fun (u : (Nat → Int64)) => slT tk vo) u) ∧ (fun (u : (Nat → Int64)) => (slT tk vo = 0 → u 0 = zL (tk + vo))) u) (fun u t => xE g (va_A [(aR, .inr (10, [.ref aG, .ref aP, .ref aH, .ref aY, .ref aT, .ref aS, .ref aF, .ref aX, .int (iI pr), .int (iI tk), .int (iI tol), .int (iI hou)])), (aO, .inl (gl.1, 1, .inr (.inl lo)))] sz) ((fun (u : (Nat → Int64)) => [(aR, .inr (10, [.ref aG, .ref aP, .ref aH, .ref aY, .ref aT, .ref aS, .ref aF, .ref aX, .int (iI pr), .int (iI (if slT tk vo = 0 then (tk + vo) else tk)), .int (iI tol), .int (iI hou)])), (aO, .inl (gl.1, 1, .inr (.inl u)))]) u) t) (va_A [(aR, .inr (10, [.ref aG, .ref aP, .ref aH, .ref aY, .ref aT, .ref aS, .ref aF, .ref aX, .int (iI pr), .int (iI tk), .int (iI tol), .int (iI hou)])), (aO, .inl (gl.1, 1, .inr (.inl lo)))] sz)) 2 12 (va_A [(aR, .inr (10, [.ref aG, .ref aP, .ref aH, .ref aY, .ref aT, .ref aS, .ref aF, .ref aX, .int (iI pr), .int (iI tk), .int (iI tol), .int (iI hou)])), (aO, .inl (gl.1, 1, .inr (.inl lo)))] sz) := by
  refine x_enterH (y := yL_addSlurry) (ws := wsL_addSlurry) (g := g) (sz := sz) (av := [.ref aR, .int (iI vo), .ref aO]) (WS := [(aR, .inr (10, [.ref aG, .ref aP, .ref aH, .ref aY, .ref aT, .ref aS, .ref aF, .ref aX, .int (iI pr), .int (iI tk), .int (iI tol), .int (iI hou)])), (aO, .inl (gl.1, 1, .inr (.inl lo)))]) (cc := cL_addSlurry) (maxL := 4) (ret := some .int) (Qc := (fun A => (va_Qi (fun r u => r = iI ((fun (u : (Nat → Int64)) => slT tk vo) u) ∧ (fun (u : (Nat → Int64)) => (slT tk vo = 0 → u 0 = zL (tk + vo))) u) (fun u t => xE g A ((fun (u : (Nat → Int64)) => [(aR, .inr (10, [.ref aG, .ref aP, .ref aH, .ref aY, .ref aT, .ref aS, .ref aF, .ref aX, .int (iI pr), .int (iI (if slT tk vo = 0 then (tk + vo) else tk)), .int (iI tol), .int (iI hou)])), (aO, .inl (gl.1, 1, .inr (.inl u)))]) u) t) A))) (by decide) rfl (Nat.le_of_ble_eq_true rfl) ?_
  intro p e s m args below meth c A ls hx hb hr hml hown hts hlocks htab hL hC hP hD hS hA hl
  have hK := hC.1
  have hown : s.vm.findClass RL = some m.cls := hown
  have hl : lv_has ls 4 [(0, .ref aR), (1, .int (iI vo)), (2, .ref aO)] := hl
  obtain ⟨H, hH⟩ : ∃ z, z = s.heap := ⟨_, rfl⟩
  obtain ⟨locs, hlo⟩ : ∃ z : List Loc, z = [] := ⟨_, rfl⟩
  obtain ⟨Q9, hQ9⟩ : ∃ z, z = MQ below (va_Qi (fun r u => r = iI ((fun (u : (Nat → Int64)) => slT tk vo) u) ∧ (fun (u : (Nat → Int64)) => (slT tk vo = 0 → u 0 = zL (tk + vo))) u) (fun u t => xE g A ((fun (u : (Nat → Int64)) => [(aR, .inr (10, [.ref aG, .ref aP, .ref aH, .ref aY, .ref aT, .ref aS, .ref aF, .ref aX, .int (iI pr), .int (iI (if slT tk vo = 0 then (tk + vo) else tk)), .int (iI tol), .int (iI hou)])), (aO, .inl (gl.1, 1, .inr (.inl u)))]) u) t) A) args s 2 12 A := ⟨_, rfl⟩
  have hP : va_P (gD g) vwCl [(aR, .inr (10, [.ref aG, .ref aP, .ref aH, .ref aY, .ref aT, .ref aS, .ref aF, .ref aX, .int (iI pr), .int (iI tk), .int (iI tol), .int (iI hou)])), (aO, .inl (gl.1, 1, .inr (.inl lo)))] H := by rw [hH]; exact hP
  have hS : va_S A s.heap H locs := by rw [hH, hlo]; exact hS
  have goal_ : W p l e { frames := 8, cells := 2, slots := 12, locals := 135 } s m args below meth c H locs 0 0 Q9 (F0 m 0 ls []) := by
    clear hH hlo
    refine lv_aload_n hx hb dL_addSlurry_0 rfl (lv_at hl 2 rfl) ?_
    refine x_iconst hx hb dL_addSlurry_1 ?_
    refine lv_aload_n hx hb dL_addSlurry_2 rfl (lv_at hl 0 rfl) ?_
    refine lv_iload_n hx hb dL_addSlurry_3 rfl (lv_at hl 1 rfl) ?_
    refine x_calliX (S := Unit) (SX := Unit) (wc := [(aR, .inr (10, [.ref aG, .ref aP, .ref aH, .ref aY, .ref aT, .ref aS, .ref aF, .ref aX, .int (iI pr), .int (iI tk), .int (iI tol), .int (iI hou)]))]) (wr := [(aO, .inl (gl.1, 1, .inr (.inl lo)))]) hC hP hD hS hA [0] [1] [1, 0] rfl rfl (fun hpre => vx_runV (As := [.int (iI vo)]) (rest := [.int (iI 0), .ref aO]) ⟨hx, hb, hml, hown, hts⟩ (c_X8_addSlurry l hflags g H.size aR aG aP aH aY aT aS aF aX pr tk tol hou vo (by first | (first | assumption | omega | exact bnd_up (by assumption) (by omega) (by omega)) | fail "q8") (by first | (first | assumption | omega | exact bnd_up (by assumption) (by omega) (by omega)) | fail "q8")) (cwV 1 hts gL_addSlurry_X8_addSlurry rfl rfl rfl (by decide +kernel) ⟨Nat.le_of_ble_eq_true rfl, Nat.le_of_ble_eq_true rfl⟩) ⟨xB_blind, va_recv hK hP (ci := 10) (q0 := 0) rfl rfl, hpre _⟩ rfl rfl hl.1 rfl (lv_room (Nat.le_of_ble_eq_true rfl)) dL_addSlurry_4 ⟨Nat.le_of_ble_eq_true rfl, Nat.le_of_ble_eq_true rfl⟩) (fun (u : Unit) => [(aR, .inr (10, [.ref aG, .ref aP, .ref aH, .ref aY, .ref aT, .ref aS, .ref aF, .ref aX, .int (iI pr), .int (iI (tk + vo)), .int (iI tol), .int (iI hou)])), (aO, .inl (gl.1, 1, .inr (.inl lo)))]) (fun (u : Unit) => ([(aR, .inr (10, [.ref aG, .ref aP, .ref aH, .ref aY, .ref aT, .ref aS, .ref aF, .ref aX, .int (iI pr), .int (iI tk), .int (iI tol), .int (iI hou)])), (aO, .inl (gl.1, 1, .inr (.inl lo)))] : va_W)) rfl rfl (by decide) (fun _ => rfl) (fun _ => rfl) rfl (fun E ce q9 u H locs hXP hPX hP hD hS hcell hv9 hcl => ?_) (fun u v_1 H locs hv_1 pv_1 hP hD hS => ?_)
    · skip
      have hP : va_P (gD g) vwCl [(aR, .inr (10, [.ref aG, .ref aP, .ref aH, .ref aY, .ref aT, .ref aS, .ref aF, .ref aX, .int (iI pr), .int (iI tk), .int (iI tol), .int (iI hou)])), (aO, .inl (gl.1, 1, .inr (.inl lo)))] H := hP
      have hD : va_D A [(aR, .inr (10, [.ref aG, .ref aP, .ref aH, .ref aY, .ref aT, .ref aS, .ref aF, .ref aX, .int (iI pr), .int (iI tk), .int (iI tol), .int (iI hou)])), (aO, .inl (gl.1, 1, .inr (.inl lo)))] := hD
      rcases hPX with ⟨hE, hp⟩ | ⟨hE, hp⟩
      · skip
        have hp : slT tk vo = 1 := hp
        subst hE
        refine vx_catch (E := "java/lang/IllegalArgumentException") (name := "java/lang/IllegalArgumentException") hown [] ⟨0, 9, 12, 13⟩ [⟨0, 9, 15, 15⟩] (by rw [htab]; rfl) (fun z hz => by cases hz) (by decide) (by decide) (hts (.classLink RL 13 "java/lang/IllegalArgumentException") (List.mem_of_getElem? (i := 1) rfl)) (va_Nw.use rfl (hC.2.2.2.2.2.2.2.2.2.2.1 "java/lang/IllegalArgumentException" (List.mem_of_getElem? (i := 0) rfl))) hcell hv9 hcl ?_
        refine lv_astore_n (lv' := [(3, .ref q9), (0, .ref aR), (1, .int (iI vo)), (2, .ref aO)]) hx hb dL_addSlurry_12 rfl hl (by decide) rfl (fun ls hl => ?_)
        refine x_iconst hx hb dL_addSlurry_13 ?_
        have q_2 : (if slT tk vo = 0 then (tk + vo) else tk) = tk := by
          first
          | (
             first | rfl | (rw [if_pos (by omega)]) | (rw [if_neg (by omega)]) | (rw [if_pos (by omega)]; subst_vars; rfl))
          | fail "q9"
        have hw_3 := (congrArg (fun (z0 : Int) => ([(aR, .inr (10, [.ref aG, .ref aP, .ref aH, .ref aY, .ref aT, .ref aS, .ref aF, .ref aX, .int (iI pr), .int (iI z0), .int (iI tol), .int (iI hou)])), (aO, .inl (gl.1, 1, .inr (.inl lo)))] : va_W)) q_2.symm)
        rw [hQ9]
        exact x_iret hx hb hr hlocks hP hD hS (S := (Nat → Int64)) rfl dL_addSlurry_14 lo (by
            first
            | (
               first | omega | (subst_vars; omega))
            | fail "q9") (by
            first
            | (
               intro h0
               first | (exfalso; omega) | ((try dsimp only); rw [zl_up]; subst_vars; rfl) | ((try dsimp only); rw [zl_up]; congr 1))
            | fail "q9") hw_3 (Nat.le_of_ble_eq_true rfl) (Nat.le_of_ble_eq_true rfl)
      · skip
        have hp : slT tk vo = 2 := hp
        subst hE
        refine vx_catch (E := "java/lang/IllegalStateException") (name := "java/lang/IllegalStateException") hown [⟨0, 9, 12, 13⟩] ⟨0, 9, 15, 15⟩ [] (by rw [htab]; rfl) (fun z hz => by rcases List.mem_cons.mp hz with rfl | hz; exact Or.inr ⟨by decide, "java/lang/IllegalArgumentException", (hts (.classLink RL 13 "java/lang/IllegalArgumentException") (List.mem_of_getElem? (i := 1) rfl)), hL.2 ("java/lang/IllegalStateException", "java/lang/IllegalArgumentException") (List.mem_of_getElem? (i := 5) (by decide +kernel))⟩; cases hz) (by decide) (by decide) (hts (.classLink RL 15 "java/lang/IllegalStateException") (List.mem_of_getElem? (i := 2) rfl)) (va_Nw.use rfl (hC.2.2.2.2.2.2.2.2.2.2.1 "java/lang/IllegalStateException" (List.mem_of_getElem? (i := 1) rfl))) hcell hv9 hcl ?_
        refine lv_astore_n (lv' := [(3, .ref q9), (0, .ref aR), (1, .int (iI vo)), (2, .ref aO)]) hx hb dL_addSlurry_15 rfl hl (by decide) rfl (fun ls hl => ?_)
        refine x_iconst hx hb dL_addSlurry_16 ?_
        have q_4 : (if slT tk vo = 0 then (tk + vo) else tk) = tk := by
          first
          | (
             first | rfl | (rw [if_pos (by omega)]) | (rw [if_neg (by omega)]) | (rw [if_pos (by omega)]; subst_vars; rfl))
          | fail "q9"
        have hw_5 := (congrArg (fun (z0 : Int) => ([(aR, .inr (10, [.ref aG, .ref aP, .ref aH, .ref aY, .ref aT, .ref aS, .ref aF, .ref aX, .int (iI pr), .int (iI z0), .int (iI tol), .int (iI hou)])), (aO, .inl (gl.1, 1, .inr (.inl lo)))] : va_W)) q_4.symm)
        rw [hQ9]
        exact x_iret hx hb hr hlocks hP hD hS (S := (Nat → Int64)) rfl dL_addSlurry_17 lo (by
            first
            | (
               first | omega | (subst_vars; omega))
            | fail "q9") (by
            first
            | (
               intro h0
               first | (exfalso; omega) | ((try dsimp only); rw [zl_up]; subst_vars; rfl) | ((try dsimp only); rw [zl_up]; congr 1))
            | fail "q9") hw_5 (Nat.le_of_ble_eq_true rfl) (Nat.le_of_ble_eq_true rfl)
    · skip
      have hP : va_P (gD g) vwCl [(aR, .inr (10, [.ref aG, .ref aP, .ref aH, .ref aY, .ref aT, .ref aS, .ref aF, .ref aX, .int (iI pr), .int (iI (tk + vo)), .int (iI tol), .int (iI hou)])), (aO, .inl (gl.1, 1, .inr (.inl lo)))] H := hP
      have hD : va_D A [(aR, .inr (10, [.ref aG, .ref aP, .ref aH, .ref aY, .ref aT, .ref aS, .ref aF, .ref aX, .int (iI pr), .int (iI (tk + vo)), .int (iI tol), .int (iI hou)])), (aO, .inl (gl.1, 1, .inr (.inl lo)))] := hD
      have hv_1 : v_1 = tk + vo := hv_1
      obtain ⟨tv_1, pv_1⟩ := pv_1
      have tv_1 : slT tk vo = 0 := tv_1
      refine x_i2z hx hb dL_addSlurry_7 ?_
      refine va_last hx hb hL.1 hP hD hS 1 0 rfl rfl zl_in dL_addSlurry_8 (fun H locs hP hD hS => ?_)
      have hP : va_P (gD g) vwCl [(aR, .inr (10, [.ref aG, .ref aP, .ref aH, .ref aY, .ref aT, .ref aS, .ref aF, .ref aX, .int (iI pr), .int (iI (tk + vo)), .int (iI tol), .int (iI hou)])), (aO, .inl (gl.1, 1, .inr (.inl (vp_updL lo (iI 0).toNatClampNeg (zL v_1)))))] H := hP
      have hD : va_D A [(aR, .inr (10, [.ref aG, .ref aP, .ref aH, .ref aY, .ref aT, .ref aS, .ref aF, .ref aX, .int (iI pr), .int (iI (tk + vo)), .int (iI tol), .int (iI hou)])), (aO, .inl (gl.1, 1, .inr (.inl (vp_updL lo (iI 0).toNatClampNeg (zL v_1)))))] := hD
      refine lv_goto (tgt := 18) hx hb dL_addSlurry_9 (by decide) ?_
      refine x_iconst hx hb dL_addSlurry_18 ?_
      have q_6 : (if slT tk vo = 0 then (tk + vo) else tk) = (tk + vo) := by
        first
        | (
           first | rfl | (rw [if_pos (by omega)]) | (rw [if_neg (by omega)]) | (rw [if_pos (by omega)]; subst_vars; rfl))
        | fail "q9"
      have hw_7 := (congrArg (fun (z0 : Int) => ([(aR, .inr (10, [.ref aG, .ref aP, .ref aH, .ref aY, .ref aT, .ref aS, .ref aF, .ref aX, .int (iI pr), .int (iI z0), .int (iI tol), .int (iI hou)])), (aO, .inl (gl.1, 1, .inr (.inl (vp_updL lo (iI 0).toNatClampNeg (zL v_1)))))] : va_W)) q_6.symm)
      rw [hQ9]
      exact x_iret hx hb hr hlocks hP hD hS (S := (Nat → Int64)) rfl dL_addSlurry_19 (vp_updL lo (iI 0).toNatClampNeg (zL v_1)) (by
          first
          | (
             first | omega | (subst_vars; omega))
          | fail "q9") (by
          first
          | (
             intro h0
             first | (exfalso; omega) | ((try dsimp only); rw [zl_up]; subst_vars; rfl) | ((try dsimp only); rw [zl_up]; congr 1))
          | fail "q9") hw_7 (Nat.le_of_ble_eq_true rfl) (Nat.le_of_ble_eq_true rfl)
  rw [hH, hlo, hQ9] at goal_
  exact goal_

set_option maxHeartbeats 4000000 in
set_option maxRecDepth 100000 in
theorem c_L_slurryFor (l : Launch) (hflags : l.stackTraces = false) (g : xg) (gl : ClassId × ClassId) (sz : Nat) (aR aG aP aH aY aT aS aF aX aGn aGw aGs aTp aTt aTx aTy aE aO : Nat) (pr tk tol hou kn ld : Int) (nd wk : Int → Int) (lo : Nat → Int64) (hkn : 0 ≤ kn ∧ kn ≤ 200) (hld : 0 ≤ ld ∧ ld ≤ 200) (hpr : 0 ≤ pr ∧ pr ≤ 100) (hb_nd : bnd nd 0 100) (hb_wk : bnd wk 0 20) : Met l yL_slurryFor wsL_slurryFor { frames := 7, cells := 1, slots := 6, locals := 112 } (va_Pc [.ref aR, .ref aO] (xBL g gl [(aR, .inr (10, [.ref aG, .ref aP, .ref aH, .ref aY, .ref aT, .ref aS, .ref aF, .ref aX, .int (iI pr), .int (iI tk), .int (iI tol), .int (iI hou)])), (aG, .inr (3, [.ref aGn, .ref aGw, .ref aGs, .int (iI kn)])), (aGn, .inl (gI g, 200, .inl (ar nd))), (aGw, .inl (gI g, 200, .inl (ar wk))), (aT, .inr (8, [.ref aTp, .ref aTt, .ref aTx, .ref aTy, .ref aE, .int (iI ld)])), (aO, .inl (gl.1, 1, .inr (.inl lo)))] sz)) (va_Qi (fun r u => r = iI ((fun (u : (Nat → Int64)) => sfT ld kn) u) ∧ (fun (u : (Nat → Int64)) => (sfT ld kn = 0 → u 0 = zL (takF nd wk pr ld))) u) (fun u t => xE g (va_A [(aR, .inr (10, [.ref aG, .ref aP, .ref aH, .ref aY, .ref aT, .ref aS, .ref aF, .ref aX, .int (iI pr), .int (iI tk), .int (iI tol), .int (iI hou)])), (aG, .inr (3, [.ref aGn, .ref aGw, .ref aGs, .int (iI kn)])), (aGn, .inl (gI g, 200, .inl (ar nd))), (aGw, .inl (gI g, 200, .inl (ar wk))), (aT, .inr (8, [.ref aTp, .ref aTt, .ref aTx, .ref aTy, .ref aE, .int (iI ld)])), (aO, .inl (gl.1, 1, .inr (.inl lo)))] sz) ((fun (u : (Nat → Int64)) => [(aR, .inr (10, [.ref aG, .ref aP, .ref aH, .ref aY, .ref aT, .ref aS, .ref aF, .ref aX, .int (iI pr), .int (iI tk), .int (iI tol), .int (iI hou)])), (aG, .inr (3, [.ref aGn, .ref aGw, .ref aGs, .int (iI kn)])), (aGn, .inl (gI g, 200, .inl (ar nd))), (aGw, .inl (gI g, 200, .inl (ar wk))), (aT, .inr (8, [.ref aTp, .ref aTt, .ref aTx, .ref aTy, .ref aE, .int (iI ld)])), (aO, .inl (gl.1, 1, .inr (.inl u)))]) u) t) (va_A [(aR, .inr (10, [.ref aG, .ref aP, .ref aH, .ref aY, .ref aT, .ref aS, .ref aF, .ref aX, .int (iI pr), .int (iI tk), .int (iI tol), .int (iI hou)])), (aG, .inr (3, [.ref aGn, .ref aGw, .ref aGs, .int (iI kn)])), (aGn, .inl (gI g, 200, .inl (ar nd))), (aGw, .inl (gI g, 200, .inl (ar wk))), (aT, .inr (8, [.ref aTp, .ref aTt, .ref aTx, .ref aTy, .ref aE, .int (iI ld)])), (aO, .inl (gl.1, 1, .inr (.inl lo)))] sz)) 1 6 (va_A [(aR, .inr (10, [.ref aG, .ref aP, .ref aH, .ref aY, .ref aT, .ref aS, .ref aF, .ref aX, .int (iI pr), .int (iI tk), .int (iI tol), .int (iI hou)])), (aG, .inr (3, [.ref aGn, .ref aGw, .ref aGs, .int (iI kn)])), (aGn, .inl (gI g, 200, .inl (ar nd))), (aGw, .inl (gI g, 200, .inl (ar wk))), (aT, .inr (8, [.ref aTp, .ref aTt, .ref aTx, .ref aTy, .ref aE, .int (iI ld)])), (aO, .inl (gl.1, 1, .inr (.inl lo)))] sz) := by
  refine x_enterH (y := yL_slurryFor) (ws := wsL_slurryFor) (g := g) (sz := sz) (av := [.ref aR, .ref aO]) (WS := [(aR, .inr (10, [.ref aG, .ref aP, .ref aH, .ref aY, .ref aT, .ref aS, .ref aF, .ref aX, .int (iI pr), .int (iI tk), .int (iI tol), .int (iI hou)])), (aG, .inr (3, [.ref aGn, .ref aGw, .ref aGs, .int (iI kn)])), (aGn, .inl (gI g, 200, .inl (ar nd))), (aGw, .inl (gI g, 200, .inl (ar wk))), (aT, .inr (8, [.ref aTp, .ref aTt, .ref aTx, .ref aTy, .ref aE, .int (iI ld)])), (aO, .inl (gl.1, 1, .inr (.inl lo)))]) (cc := cL_slurryFor) (maxL := 3) (ret := some .int) (Qc := (fun A => (va_Qi (fun r u => r = iI ((fun (u : (Nat → Int64)) => sfT ld kn) u) ∧ (fun (u : (Nat → Int64)) => (sfT ld kn = 0 → u 0 = zL (takF nd wk pr ld))) u) (fun u t => xE g A ((fun (u : (Nat → Int64)) => [(aR, .inr (10, [.ref aG, .ref aP, .ref aH, .ref aY, .ref aT, .ref aS, .ref aF, .ref aX, .int (iI pr), .int (iI tk), .int (iI tol), .int (iI hou)])), (aG, .inr (3, [.ref aGn, .ref aGw, .ref aGs, .int (iI kn)])), (aGn, .inl (gI g, 200, .inl (ar nd))), (aGw, .inl (gI g, 200, .inl (ar wk))), (aT, .inr (8, [.ref aTp, .ref aTt, .ref aTx, .ref aTy, .ref aE, .int (iI ld)])), (aO, .inl (gl.1, 1, .inr (.inl u)))]) u) t) A))) (by decide) rfl (Nat.le_of_ble_eq_true rfl) ?_
  intro p e s m args below meth c A ls hx hb hr hml hown hts hlocks htab hL hC hP hD hS hA hl
  have hK := hC.1
  have hown : s.vm.findClass RL = some m.cls := hown
  have hl : lv_has ls 3 [(0, .ref aR), (1, .ref aO)] := hl
  obtain ⟨H, hH⟩ : ∃ z, z = s.heap := ⟨_, rfl⟩
  obtain ⟨locs, hlo⟩ : ∃ z : List Loc, z = [] := ⟨_, rfl⟩
  obtain ⟨Q9, hQ9⟩ : ∃ z, z = MQ below (va_Qi (fun r u => r = iI ((fun (u : (Nat → Int64)) => sfT ld kn) u) ∧ (fun (u : (Nat → Int64)) => (sfT ld kn = 0 → u 0 = zL (takF nd wk pr ld))) u) (fun u t => xE g A ((fun (u : (Nat → Int64)) => [(aR, .inr (10, [.ref aG, .ref aP, .ref aH, .ref aY, .ref aT, .ref aS, .ref aF, .ref aX, .int (iI pr), .int (iI tk), .int (iI tol), .int (iI hou)])), (aG, .inr (3, [.ref aGn, .ref aGw, .ref aGs, .int (iI kn)])), (aGn, .inl (gI g, 200, .inl (ar nd))), (aGw, .inl (gI g, 200, .inl (ar wk))), (aT, .inr (8, [.ref aTp, .ref aTt, .ref aTx, .ref aTy, .ref aE, .int (iI ld)])), (aO, .inl (gl.1, 1, .inr (.inl u)))]) u) t) A) args s 1 6 A := ⟨_, rfl⟩
  have hP : va_P (gD g) vwCl [(aR, .inr (10, [.ref aG, .ref aP, .ref aH, .ref aY, .ref aT, .ref aS, .ref aF, .ref aX, .int (iI pr), .int (iI tk), .int (iI tol), .int (iI hou)])), (aG, .inr (3, [.ref aGn, .ref aGw, .ref aGs, .int (iI kn)])), (aGn, .inl (gI g, 200, .inl (ar nd))), (aGw, .inl (gI g, 200, .inl (ar wk))), (aT, .inr (8, [.ref aTp, .ref aTt, .ref aTx, .ref aTy, .ref aE, .int (iI ld)])), (aO, .inl (gl.1, 1, .inr (.inl lo)))] H := by rw [hH]; exact hP
  have hS : va_S A s.heap H locs := by rw [hH, hlo]; exact hS
  have goal_ : W p l e { frames := 7, cells := 1, slots := 6, locals := 112 } s m args below meth c H locs 0 0 Q9 (F0 m 0 ls []) := by
    clear hH hlo
    refine lv_aload_n hx hb dL_slurryFor_0 rfl (lv_at hl 1 rfl) ?_
    refine x_iconst hx hb dL_slurryFor_1 ?_
    refine lv_aload_n hx hb dL_slurryFor_2 rfl (lv_at hl 0 rfl) ?_
    refine x_calliX (S := Unit) (SX := Unit) (wc := [(aR, .inr (10, [.ref aG, .ref aP, .ref aH, .ref aY, .ref aT, .ref aS, .ref aF, .ref aX, .int (iI pr), .int (iI tk), .int (iI tol), .int (iI hou)])), (aG, .inr (3, [.ref aGn, .ref aGw, .ref aGs, .int (iI kn)])), (aGn, .inl (gI g, 200, .inl (ar nd))), (aGw, .inl (gI g, 200, .inl (ar wk))), (aT, .inr (8, [.ref aTp, .ref aTt, .ref aTx, .ref aTy, .ref aE, .int (iI ld)]))]) (wr := [(aO, .inl (gl.1, 1, .inr (.inl lo)))]) hC hP hD hS hA [0, 1, 2, 3, 4] [5] [1, 2, 3, 4, 5, 0] rfl rfl (fun hpre => vx_runV (As := []) (rest := [.int (iI 0), .ref aO]) ⟨hx, hb, hml, hown, hts⟩ (c_X8_slurryFor l hflags g H.size aR aG aP aH aY aT aS aF aX aGn aGw aGs aTp aTt aTx aTy aE pr tk tol hou kn ld nd wk (by first | (first | assumption | omega | exact bnd_up (by assumption) (by omega) (by omega)) | fail "q8") (by first | (first | assumption | omega | exact bnd_up (by assumption) (by omega) (by omega)) | fail "q8") (by first | (first | assumption | omega | exact bnd_up (by assumption) (by omega) (by omega)) | fail "q8") (by first | (first | assumption | omega | exact bnd_up (by assumption) (by omega) (by omega)) | fail "q8") (by first | (first | assumption | omega | exact bnd_up (by assumption) (by omega) (by omega)) | fail "q8")) (cwV 0 hts gL_slurryFor_X8_slurryFor rfl rfl rfl (by decide +kernel) ⟨Nat.le_of_ble_eq_true rfl, Nat.le_of_ble_eq_true rfl⟩) ⟨xB_blind, va_recv hK hP (ci := 10) (q0 := 0) rfl rfl, hpre _⟩ rfl rfl hl.1 rfl (lv_room (Nat.le_of_ble_eq_true rfl)) dL_slurryFor_3 ⟨Nat.le_of_ble_eq_true rfl, Nat.le_of_ble_eq_true rfl⟩) (fun (u : Unit) => [(aR, .inr (10, [.ref aG, .ref aP, .ref aH, .ref aY, .ref aT, .ref aS, .ref aF, .ref aX, .int (iI pr), .int (iI tk), .int (iI tol), .int (iI hou)])), (aG, .inr (3, [.ref aGn, .ref aGw, .ref aGs, .int (iI kn)])), (aGn, .inl (gI g, 200, .inl (ar nd))), (aGw, .inl (gI g, 200, .inl (ar wk))), (aT, .inr (8, [.ref aTp, .ref aTt, .ref aTx, .ref aTy, .ref aE, .int (iI ld)])), (aO, .inl (gl.1, 1, .inr (.inl lo)))]) (fun (u : Unit) => ([(aR, .inr (10, [.ref aG, .ref aP, .ref aH, .ref aY, .ref aT, .ref aS, .ref aF, .ref aX, .int (iI pr), .int (iI tk), .int (iI tol), .int (iI hou)])), (aG, .inr (3, [.ref aGn, .ref aGw, .ref aGs, .int (iI kn)])), (aGn, .inl (gI g, 200, .inl (ar nd))), (aGw, .inl (gI g, 200, .inl (ar wk))), (aT, .inr (8, [.ref aTp, .ref aTt, .ref aTx, .ref aTy, .ref aE, .int (iI ld)])), (aO, .inl (gl.1, 1, .inr (.inl lo)))] : va_W)) rfl rfl (by decide) (fun _ => rfl) (fun _ => rfl) rfl (fun E ce q9 u H locs hXP hPX hP hD hS hcell hv9 hcl => ?_) (fun u v_1 H locs hv_1 pv_1 hP hD hS => ?_)
    · skip
      have hP : va_P (gD g) vwCl [(aR, .inr (10, [.ref aG, .ref aP, .ref aH, .ref aY, .ref aT, .ref aS, .ref aF, .ref aX, .int (iI pr), .int (iI tk), .int (iI tol), .int (iI hou)])), (aG, .inr (3, [.ref aGn, .ref aGw, .ref aGs, .int (iI kn)])), (aGn, .inl (gI g, 200, .inl (ar nd))), (aGw, .inl (gI g, 200, .inl (ar wk))), (aT, .inr (8, [.ref aTp, .ref aTt, .ref aTx, .ref aTy, .ref aE, .int (iI ld)])), (aO, .inl (gl.1, 1, .inr (.inl lo)))] H := hP
      have hD : va_D A [(aR, .inr (10, [.ref aG, .ref aP, .ref aH, .ref aY, .ref aT, .ref aS, .ref aF, .ref aX, .int (iI pr), .int (iI tk), .int (iI tol), .int (iI hou)])), (aG, .inr (3, [.ref aGn, .ref aGw, .ref aGs, .int (iI kn)])), (aGn, .inl (gI g, 200, .inl (ar nd))), (aGw, .inl (gI g, 200, .inl (ar wk))), (aT, .inr (8, [.ref aTp, .ref aTt, .ref aTx, .ref aTy, .ref aE, .int (iI ld)])), (aO, .inl (gl.1, 1, .inr (.inl lo)))] := hD
      obtain ⟨hE, hp⟩ := hPX
      have hp : sfT ld kn = 1 := hp
      subst hE
      refine vx_catch (E := "java/util/NoSuchElementException") (name := "java/util/NoSuchElementException") hown [] ⟨0, 8, 11, 43⟩ [] (by rw [htab]; rfl) (fun z hz => by cases hz) (by decide) (by decide) (hts (.classLink RL 43 "java/util/NoSuchElementException") (List.mem_of_getElem? (i := 1) rfl)) (va_Nw.use rfl (hC.2.2.2.2.2.2.2.2.2.2.1 "java/util/NoSuchElementException" (List.mem_of_getElem? (i := 3) rfl))) hcell hv9 hcl ?_
      refine lv_astore_n (lv' := [(2, .ref q9), (0, .ref aR), (1, .ref aO)]) hx hb dL_slurryFor_11 rfl hl (by decide) rfl (fun ls hl => ?_)
      refine x_iconst hx hb dL_slurryFor_12 ?_
      rw [hQ9]
      exact x_iret hx hb hr hlocks hP hD hS (S := (Nat → Int64)) rfl dL_slurryFor_13 lo (by
          first
          | (
             first | omega | (subst_vars; omega))
          | fail "q9") (by
          first
          | (
             intro h0
             first | (exfalso; omega) | ((try dsimp only); rw [zl_up]; subst_vars; rfl) | ((try dsimp only); rw [zl_up]; congr 1))
          | fail "q9") rfl (Nat.le_of_ble_eq_true rfl) (Nat.le_of_ble_eq_true rfl)
    · skip
      have hP : va_P (gD g) vwCl [(aR, .inr (10, [.ref aG, .ref aP, .ref aH, .ref aY, .ref aT, .ref aS, .ref aF, .ref aX, .int (iI pr), .int (iI tk), .int (iI tol), .int (iI hou)])), (aG, .inr (3, [.ref aGn, .ref aGw, .ref aGs, .int (iI kn)])), (aGn, .inl (gI g, 200, .inl (ar nd))), (aGw, .inl (gI g, 200, .inl (ar wk))), (aT, .inr (8, [.ref aTp, .ref aTt, .ref aTx, .ref aTy, .ref aE, .int (iI ld)])), (aO, .inl (gl.1, 1, .inr (.inl lo)))] H := hP
      have hD : va_D A [(aR, .inr (10, [.ref aG, .ref aP, .ref aH, .ref aY, .ref aT, .ref aS, .ref aF, .ref aX, .int (iI pr), .int (iI tk), .int (iI tol), .int (iI hou)])), (aG, .inr (3, [.ref aGn, .ref aGw, .ref aGs, .int (iI kn)])), (aGn, .inl (gI g, 200, .inl (ar nd))), (aGw, .inl (gI g, 200, .inl (ar wk))), (aT, .inr (8, [.ref aTp, .ref aTt, .ref aTx, .ref aTy, .ref aE, .int (iI ld)])), (aO, .inl (gl.1, 1, .inr (.inl lo)))] := hD
      have hv_1 : v_1 = takF nd wk pr ld := hv_1
      obtain ⟨tv_1, pv_1⟩ := pv_1
      have tv_1 : sfT ld kn = 0 := tv_1
      refine x_i2z hx hb dL_slurryFor_6 ?_
      refine va_last hx hb hL.1 hP hD hS 5 0 rfl rfl zl_in dL_slurryFor_7 (fun H locs hP hD hS => ?_)
      have hP : va_P (gD g) vwCl [(aR, .inr (10, [.ref aG, .ref aP, .ref aH, .ref aY, .ref aT, .ref aS, .ref aF, .ref aX, .int (iI pr), .int (iI tk), .int (iI tol), .int (iI hou)])), (aG, .inr (3, [.ref aGn, .ref aGw, .ref aGs, .int (iI kn)])), (aGn, .inl (gI g, 200, .inl (ar nd))), (aGw, .inl (gI g, 200, .inl (ar wk))), (aT, .inr (8, [.ref aTp, .ref aTt, .ref aTx, .ref aTy, .ref aE, .int (iI ld)])), (aO, .inl (gl.1, 1, .inr (.inl (vp_updL lo (iI 0).toNatClampNeg (zL v_1)))))] H := hP
      have hD : va_D A [(aR, .inr (10, [.ref aG, .ref aP, .ref aH, .ref aY, .ref aT, .ref aS, .ref aF, .ref aX, .int (iI pr), .int (iI tk), .int (iI tol), .int (iI hou)])), (aG, .inr (3, [.ref aGn, .ref aGw, .ref aGs, .int (iI kn)])), (aGn, .inl (gI g, 200, .inl (ar nd))), (aGw, .inl (gI g, 200, .inl (ar wk))), (aT, .inr (8, [.ref aTp, .ref aTt, .ref aTx, .ref aTy, .ref aE, .int (iI ld)])), (aO, .inl (gl.1, 1, .inr (.inl (vp_updL lo (iI 0).toNatClampNeg (zL v_1)))))] := hD
      refine lv_goto (tgt := 14) hx hb dL_slurryFor_8 (by decide) ?_
      refine x_iconst hx hb dL_slurryFor_14 ?_
      rw [hQ9]
      exact x_iret hx hb hr hlocks hP hD hS (S := (Nat → Int64)) rfl dL_slurryFor_15 (vp_updL lo (iI 0).toNatClampNeg (zL v_1)) (by
          first
          | (
             first | omega | (subst_vars; omega))
          | fail "q9") (by
          first
          | (
             intro h0
             first | (exfalso; omega) | ((try dsimp only); rw [zl_up]; subst_vars; rfl) | ((try dsimp only); rw [zl_up]; congr 1))
          | fail "q9") rfl (Nat.le_of_ble_eq_true rfl) (Nat.le_of_ble_eq_true rfl)
  rw [hH, hlo, hQ9] at goal_
  exact goal_

set_option maxHeartbeats 4000000 in
set_option maxRecDepth 100000 in
theorem c_L_setTolerance (l : Launch) (hflags : l.stackTraces = false) (g : xg) (gl : ClassId × ClassId) (sz : Nat) (aR aG aP aH aY aT aS aF aX aO : Nat) (pr tk tol hou nto : Int) (lo : Nat → Int64) (htol : 0 ≤ tol ∧ tol ≤ 9999) (hr_nto : iR nto) : Met l yL_setTolerance wsL_setTolerance { frames := 8, cells := 1, slots := 6, locals := 136 } (va_Pc [.ref aR, .int (iI nto), .ref aO] (xBL g gl [(aR, .inr (10, [.ref aG, .ref aP, .ref aH, .ref aY, .ref aT, .ref aS, .ref aF, .ref aX, .int (iI pr), .int (iI tk), .int (iI tol), .int (iI hou)])), (aO, .inl (gl.1, 1, .inr (.inl lo)))] sz)) (va_Qi (fun r u => r = iI ((fun (u : (Nat → Int64)) => inT 0 9999 nto) u) ∧ (fun (u : (Nat → Int64)) => (inT 0 9999 nto = 0 → u 0 = zL tol)) u) (fun u t => xE g (va_A [(aR, .inr (10, [.ref aG, .ref aP, .ref aH, .ref aY, .ref aT, .ref aS, .ref aF, .ref aX, .int (iI pr), .int (iI tk), .int (iI tol), .int (iI hou)])), (aO, .inl (gl.1, 1, .inr (.inl lo)))] sz) ((fun (u : (Nat → Int64)) => [(aR, .inr (10, [.ref aG, .ref aP, .ref aH, .ref aY, .ref aT, .ref aS, .ref aF, .ref aX, .int (iI pr), .int (iI tk), .int (iI (if inT 0 9999 nto = 0 then nto else tol)), .int (iI hou)])), (aO, .inl (gl.1, 1, .inr (.inl u)))]) u) t) (va_A [(aR, .inr (10, [.ref aG, .ref aP, .ref aH, .ref aY, .ref aT, .ref aS, .ref aF, .ref aX, .int (iI pr), .int (iI tk), .int (iI tol), .int (iI hou)])), (aO, .inl (gl.1, 1, .inr (.inl lo)))] sz)) 1 6 (va_A [(aR, .inr (10, [.ref aG, .ref aP, .ref aH, .ref aY, .ref aT, .ref aS, .ref aF, .ref aX, .int (iI pr), .int (iI tk), .int (iI tol), .int (iI hou)])), (aO, .inl (gl.1, 1, .inr (.inl lo)))] sz) := by
  refine x_enterH (y := yL_setTolerance) (ws := wsL_setTolerance) (g := g) (sz := sz) (av := [.ref aR, .int (iI nto), .ref aO]) (WS := [(aR, .inr (10, [.ref aG, .ref aP, .ref aH, .ref aY, .ref aT, .ref aS, .ref aF, .ref aX, .int (iI pr), .int (iI tk), .int (iI tol), .int (iI hou)])), (aO, .inl (gl.1, 1, .inr (.inl lo)))]) (cc := cL_setTolerance) (maxL := 4) (ret := some .int) (Qc := (fun A => (va_Qi (fun r u => r = iI ((fun (u : (Nat → Int64)) => inT 0 9999 nto) u) ∧ (fun (u : (Nat → Int64)) => (inT 0 9999 nto = 0 → u 0 = zL tol)) u) (fun u t => xE g A ((fun (u : (Nat → Int64)) => [(aR, .inr (10, [.ref aG, .ref aP, .ref aH, .ref aY, .ref aT, .ref aS, .ref aF, .ref aX, .int (iI pr), .int (iI tk), .int (iI (if inT 0 9999 nto = 0 then nto else tol)), .int (iI hou)])), (aO, .inl (gl.1, 1, .inr (.inl u)))]) u) t) A))) (by decide) rfl (Nat.le_of_ble_eq_true rfl) ?_
  intro p e s m args below meth c A ls hx hb hr hml hown hts hlocks htab hL hC hP hD hS hA hl
  have hK := hC.1
  have hown : s.vm.findClass RL = some m.cls := hown
  have hl : lv_has ls 4 [(0, .ref aR), (1, .int (iI nto)), (2, .ref aO)] := hl
  obtain ⟨H, hH⟩ : ∃ z, z = s.heap := ⟨_, rfl⟩
  obtain ⟨locs, hlo⟩ : ∃ z : List Loc, z = [] := ⟨_, rfl⟩
  obtain ⟨Q9, hQ9⟩ : ∃ z, z = MQ below (va_Qi (fun r u => r = iI ((fun (u : (Nat → Int64)) => inT 0 9999 nto) u) ∧ (fun (u : (Nat → Int64)) => (inT 0 9999 nto = 0 → u 0 = zL tol)) u) (fun u t => xE g A ((fun (u : (Nat → Int64)) => [(aR, .inr (10, [.ref aG, .ref aP, .ref aH, .ref aY, .ref aT, .ref aS, .ref aF, .ref aX, .int (iI pr), .int (iI tk), .int (iI (if inT 0 9999 nto = 0 then nto else tol)), .int (iI hou)])), (aO, .inl (gl.1, 1, .inr (.inl u)))]) u) t) A) args s 1 6 A := ⟨_, rfl⟩
  have hP : va_P (gD g) vwCl [(aR, .inr (10, [.ref aG, .ref aP, .ref aH, .ref aY, .ref aT, .ref aS, .ref aF, .ref aX, .int (iI pr), .int (iI tk), .int (iI tol), .int (iI hou)])), (aO, .inl (gl.1, 1, .inr (.inl lo)))] H := by rw [hH]; exact hP
  have hS : va_S A s.heap H locs := by rw [hH, hlo]; exact hS
  have goal_ : W p l e { frames := 8, cells := 1, slots := 6, locals := 136 } s m args below meth c H locs 0 0 Q9 (F0 m 0 ls []) := by
    clear hH hlo
    refine lv_aload_n hx hb dL_setTolerance_0 rfl (lv_at hl 2 rfl) ?_
    refine x_iconst hx hb dL_setTolerance_1 ?_
    refine lv_aload_n hx hb dL_setTolerance_2 rfl (lv_at hl 0 rfl) ?_
    refine lv_iload_n hx hb dL_setTolerance_3 rfl (lv_at hl 1 rfl) ?_
    refine x_calliX (S := Unit) (SX := Unit) (wc := [(aR, .inr (10, [.ref aG, .ref aP, .ref aH, .ref aY, .ref aT, .ref aS, .ref aF, .ref aX, .int (iI pr), .int (iI tk), .int (iI tol), .int (iI hou)]))]) (wr := [(aO, .inl (gl.1, 1, .inr (.inl lo)))]) hC hP hD hS hA [0] [1] [1, 0] rfl rfl (fun hpre => vx_runV (As := [.int (iI nto)]) (rest := [.int (iI 0), .ref aO]) ⟨hx, hb, hml, hown, hts⟩ (c_X8_setTolerance l hflags g H.size aR aG aP aH aY aT aS aF aX pr tk tol hou nto (by first | (first | assumption | omega | exact bnd_up (by assumption) (by omega) (by omega)) | fail "q8") (by first | (first | assumption | omega | exact bnd_up (by assumption) (by omega) (by omega)) | fail "q8")) (cwV 1 hts gL_setTolerance_X8_setTolerance rfl rfl rfl (by decide +kernel) ⟨Nat.le_of_ble_eq_true rfl, Nat.le_of_ble_eq_true rfl⟩) ⟨xB_blind, va_recv hK hP (ci := 10) (q0 := 0) rfl rfl, hpre _⟩ rfl rfl hl.1 rfl (lv_room (Nat.le_of_ble_eq_true rfl)) dL_setTolerance_4 ⟨Nat.le_of_ble_eq_true rfl, Nat.le_of_ble_eq_true rfl⟩) (fun (u : Unit) => [(aR, .inr (10, [.ref aG, .ref aP, .ref aH, .ref aY, .ref aT, .ref aS, .ref aF, .ref aX, .int (iI pr), .int (iI tk), .int (iI nto), .int (iI hou)])), (aO, .inl (gl.1, 1, .inr (.inl lo)))]) (fun (u : Unit) => ([(aR, .inr (10, [.ref aG, .ref aP, .ref aH, .ref aY, .ref aT, .ref aS, .ref aF, .ref aX, .int (iI pr), .int (iI tk), .int (iI tol), .int (iI hou)])), (aO, .inl (gl.1, 1, .inr (.inl lo)))] : va_W)) rfl rfl (by decide) (fun _ => rfl) (fun _ => rfl) rfl (fun E ce q9 u H locs hXP hPX hP hD hS hcell hv9 hcl => ?_) (fun u v_1 H locs hv_1 pv_1 hP hD hS => ?_)
    · skip
      have hP : va_P (gD g) vwCl [(aR, .inr (10, [.ref aG, .ref aP, .ref aH, .ref aY, .ref aT, .ref aS, .ref aF, .ref aX, .int (iI pr), .int (iI tk), .int (iI tol), .int (iI hou)])), (aO, .inl (gl.1, 1, .inr (.inl lo)))] H := hP
      have hD : va_D A [(aR, .inr (10, [.ref aG, .ref aP, .ref aH, .ref aY, .ref aT, .ref aS, .ref aF, .ref aX, .int (iI pr), .int (iI tk), .int (iI tol), .int (iI hou)])), (aO, .inl (gl.1, 1, .inr (.inl lo)))] := hD
      obtain ⟨hE, hp⟩ := hPX
      have hp : inT 0 9999 nto = 1 := hp
      subst hE
      refine vx_catch (E := "java/lang/IllegalArgumentException") (name := "java/lang/IllegalArgumentException") hown [] ⟨0, 9, 12, 13⟩ [] (by rw [htab]; rfl) (fun z hz => by cases hz) (by decide) (by decide) (hts (.classLink RL 13 "java/lang/IllegalArgumentException") (List.mem_of_getElem? (i := 1) rfl)) (va_Nw.use rfl (hC.2.2.2.2.2.2.2.2.2.2.1 "java/lang/IllegalArgumentException" (List.mem_of_getElem? (i := 0) rfl))) hcell hv9 hcl ?_
      refine lv_astore_n (lv' := [(3, .ref q9), (0, .ref aR), (1, .int (iI nto)), (2, .ref aO)]) hx hb dL_setTolerance_12 rfl hl (by decide) rfl (fun ls hl => ?_)
      refine x_iconst hx hb dL_setTolerance_13 ?_
      have q_2 : (if inT 0 9999 nto = 0 then nto else tol) = tol := by
        first
        | (
           first | rfl | (rw [if_pos (by omega)]) | (rw [if_neg (by omega)]) | (rw [if_pos (by omega)]; subst_vars; rfl))
        | fail "q9"
      have hw_3 := (congrArg (fun (z0 : Int) => ([(aR, .inr (10, [.ref aG, .ref aP, .ref aH, .ref aY, .ref aT, .ref aS, .ref aF, .ref aX, .int (iI pr), .int (iI tk), .int (iI z0), .int (iI hou)])), (aO, .inl (gl.1, 1, .inr (.inl lo)))] : va_W)) q_2.symm)
      rw [hQ9]
      exact x_iret hx hb hr hlocks hP hD hS (S := (Nat → Int64)) rfl dL_setTolerance_14 lo (by
          first
          | (
             first | omega | (subst_vars; omega))
          | fail "q9") (by
          first
          | (
             intro h0
             first | (exfalso; omega) | ((try dsimp only); rw [zl_up]; subst_vars; rfl) | ((try dsimp only); rw [zl_up]; congr 1))
          | fail "q9") hw_3 (Nat.le_of_ble_eq_true rfl) (Nat.le_of_ble_eq_true rfl)
    · skip
      have hP : va_P (gD g) vwCl [(aR, .inr (10, [.ref aG, .ref aP, .ref aH, .ref aY, .ref aT, .ref aS, .ref aF, .ref aX, .int (iI pr), .int (iI tk), .int (iI nto), .int (iI hou)])), (aO, .inl (gl.1, 1, .inr (.inl lo)))] H := hP
      have hD : va_D A [(aR, .inr (10, [.ref aG, .ref aP, .ref aH, .ref aY, .ref aT, .ref aS, .ref aF, .ref aX, .int (iI pr), .int (iI tk), .int (iI nto), .int (iI hou)])), (aO, .inl (gl.1, 1, .inr (.inl lo)))] := hD
      have hv_1 : v_1 = tol := hv_1
      obtain ⟨tv_1, pv_1⟩ := pv_1
      have tv_1 : inT 0 9999 nto = 0 := tv_1
      refine x_i2z hx hb dL_setTolerance_7 ?_
      refine va_last hx hb hL.1 hP hD hS 1 0 rfl rfl zl_in dL_setTolerance_8 (fun H locs hP hD hS => ?_)
      have hP : va_P (gD g) vwCl [(aR, .inr (10, [.ref aG, .ref aP, .ref aH, .ref aY, .ref aT, .ref aS, .ref aF, .ref aX, .int (iI pr), .int (iI tk), .int (iI nto), .int (iI hou)])), (aO, .inl (gl.1, 1, .inr (.inl (vp_updL lo (iI 0).toNatClampNeg (zL v_1)))))] H := hP
      have hD : va_D A [(aR, .inr (10, [.ref aG, .ref aP, .ref aH, .ref aY, .ref aT, .ref aS, .ref aF, .ref aX, .int (iI pr), .int (iI tk), .int (iI nto), .int (iI hou)])), (aO, .inl (gl.1, 1, .inr (.inl (vp_updL lo (iI 0).toNatClampNeg (zL v_1)))))] := hD
      refine lv_goto (tgt := 15) hx hb dL_setTolerance_9 (by decide) ?_
      refine x_iconst hx hb dL_setTolerance_15 ?_
      have q_4 : (if inT 0 9999 nto = 0 then nto else tol) = nto := by
        first
        | (
           first | rfl | (rw [if_pos (by omega)]) | (rw [if_neg (by omega)]) | (rw [if_pos (by omega)]; subst_vars; rfl))
        | fail "q9"
      have hw_5 := (congrArg (fun (z0 : Int) => ([(aR, .inr (10, [.ref aG, .ref aP, .ref aH, .ref aY, .ref aT, .ref aS, .ref aF, .ref aX, .int (iI pr), .int (iI tk), .int (iI z0), .int (iI hou)])), (aO, .inl (gl.1, 1, .inr (.inl (vp_updL lo (iI 0).toNatClampNeg (zL v_1)))))] : va_W)) q_4.symm)
      rw [hQ9]
      exact x_iret hx hb hr hlocks hP hD hS (S := (Nat → Int64)) rfl dL_setTolerance_16 (vp_updL lo (iI 0).toNatClampNeg (zL v_1)) (by
          first
          | (
             first | omega | (subst_vars; omega))
          | fail "q9") (by
          first
          | (
             intro h0
             first | (exfalso; omega) | ((try dsimp only); rw [zl_up]; subst_vars; rfl) | ((try dsimp only); rw [zl_up]; congr 1))
          | fail "q9") hw_5 (Nat.le_of_ble_eq_true rfl) (Nat.le_of_ble_eq_true rfl)
  rw [hH, hlo, hQ9] at goal_
  exact goal_

set_option maxHeartbeats 4000000 in
set_option maxRecDepth 100000 in
theorem c_L_reasonFor (l : Launch) (hflags : l.stackTraces = false) (g : xg) (gl : ClassId × ClassId) (sz : Nat) (aR aG aP aH aY aT aS aF aX aTp aTt aTx aTy aE aPx aPy aQ aSt aSx aSy aYh aYt aYc aGn aGw aGs aO : Nat) (pr tk tol hou ld ex ey ehx ehy pn fx fy fhx fhy sr sl qx qy qhx qhy kn sta po : Int) (bx byy st sx sy ht yt nd wk tp yc : Int → Int) (kx : Int → Int) (ky : Int → Int) (lo : Nat → Int64) (hkn : 0 ≤ kn ∧ kn ≤ 200) (hpn : 0 ≤ pn ∧ pn ≤ 200) (hld : 0 ≤ ld ∧ ld ≤ 200) (hhou : 0 ≤ hou ∧ hou ≤ 5000) (hpr : 0 ≤ pr ∧ pr ≤ 100) (htk : 0 ≤ tk ∧ tk ≤ 1000) (htol : 0 ≤ tol ∧ tol ≤ 9999) (hb_nd : bnd nd 0 100) (hb_wk : bnd wk 0 20) (hb_bx : bnd bx (-5) 5) (hb_byy : bnd byy (-5) 5) (hb_tp : bnd tp 0 7) (hb_yt : bnd yt 0 9) (hb_yc : bnd yc 0 5000) (hb_ht : bnd ht 0 12) (hehx : -2000 ≤ ehx ∧ ehx ≤ 2000) (hehy : -2000 ≤ ehy ∧ ehy ≤ 2000) (hex : -400000 ≤ ex ∧ ex ≤ 400000) (hey : -400000 ≤ ey ∧ ey ≤ 400000) (hb_st : bnd st 0 9) (hb_sx : bnd sx (-5) 5) (hb_sy : bnd sy (-5) 5) (helx : ex = lastF ld kx) (hely : ey = lastF ld ky) (hr_sta : iR sta) (hr_po : iR po) : Met l yL_reasonFor wsL_reasonFor { frames := 8, cells := 2, slots := 12, locals := 134 } (va_Pc [.ref aR, .int (iI sta), .int (iI po), .ref aO] (xBL g gl [(aR, .inr (10, [.ref aG, .ref aP, .ref aH, .ref aY, .ref aT, .ref aS, .ref aF, .ref aX, .int (iI pr), .int (iI tk), .int (iI tol), .int (iI hou)])), (aT, .inr (8, [.ref aTp, .ref aTt, .ref aTx, .ref aTy, .ref aE, .int (iI ld)])), (aE, .inr (2, [.int (iI ex), .int (iI ey), .int (iI ehx), .int (iI ehy)])), (aP, .inr (5, [.ref aPx, .ref aPy, .int (iI pn)])), (aPx, .inl (gI g, 200, .inl (ar bx))), (aPy, .inl (gI g, 200, .inl (ar byy))), (aF, .inr (2, [.int (iI fx), .int (iI fy), .int (iI fhx), .int (iI fhy)])), (aS, .inr (6, [.ref aQ, .ref aSt, .ref aSx, .ref aSy, .int (iI sr), .int (iI sl)])), (aQ, .inr (2, [.int (iI qx), .int (iI qy), .int (iI qhx), .int (iI qhy)])), (aSt, .inl (gI g, 4, .inl (ar st))), (aSx, .inl (gI g, 4, .inl (ar sx))), (aSy, .inl (gI g, 4, .inl (ar sy))), (aY, .inr (9, [.ref aYh, .ref aYt, .ref aYc])), (aYh, .inl (gI g, 3, .inl (ar ht))), (aYt, .inl (gI g, 36, .inl (ar yt))), (aG, .inr (3, [.ref aGn, .ref aGw, .ref aGs, .int (iI kn)])), (aGn, .inl (gI g, 200, .inl (ar nd))), (aGw, .inl (gI g, 200, .inl (ar wk))), (aTp, .inl (gI g, 200, .inl (ar tp))), (aYc, .inl (gI g, 36, .inl (ar yc))), (aO, .inl (gl.1, 1, .inr (.inl lo)))] sz)) (va_Qi (fun r u => r = iI ((fun (u : Int × Int × Int × Int × Int × Int × Int × Int × Int × Int × (Int → Int) × (Int → Int) × (Int → Int) × (Nat → Int64)) => rfT sta po) u) ∧ (fun (u : Int × Int × Int × Int × Int × Int × Int × Int × Int × Int × (Int → Int) × (Int → Int) × (Int → Int) × (Nat → Int64)) => (rfT sta po = 0 → u.2.2.2.2.2.2.2.2.2.2.2.2.2 0 = zL (reaF kn ld (ht sta) (mx 0 (yc (sta * 12 + (ht sta - 1)) + 24 - hou)) (lastP ld tp) po tk (takF nd wk pr ld) (devF pn bx byy kx ky ld ehx ehy (yt (sta * 12 + (ht sta - 1))) po) tol)) ∧ bnd u.2.2.2.2.2.2.2.2.2.2.1 0 9 ∧ bnd u.2.2.2.2.2.2.2.2.2.2.2.1 (-5) 5 ∧ bnd u.2.2.2.2.2.2.2.2.2.2.2.2.1 (-5) 5) u) (fun u t => xE g (va_A [(aR, .inr (10, [.ref aG, .ref aP, .ref aH, .ref aY, .ref aT, .ref aS, .ref aF, .ref aX, .int (iI pr), .int (iI tk), .int (iI tol), .int (iI hou)])), (aT, .inr (8, [.ref aTp, .ref aTt, .ref aTx, .ref aTy, .ref aE, .int (iI ld)])), (aE, .inr (2, [.int (iI ex), .int (iI ey), .int (iI ehx), .int (iI ehy)])), (aP, .inr (5, [.ref aPx, .ref aPy, .int (iI pn)])), (aPx, .inl (gI g, 200, .inl (ar bx))), (aPy, .inl (gI g, 200, .inl (ar byy))), (aF, .inr (2, [.int (iI fx), .int (iI fy), .int (iI fhx), .int (iI fhy)])), (aS, .inr (6, [.ref aQ, .ref aSt, .ref aSx, .ref aSy, .int (iI sr), .int (iI sl)])), (aQ, .inr (2, [.int (iI qx), .int (iI qy), .int (iI qhx), .int (iI qhy)])), (aSt, .inl (gI g, 4, .inl (ar st))), (aSx, .inl (gI g, 4, .inl (ar sx))), (aSy, .inl (gI g, 4, .inl (ar sy))), (aY, .inr (9, [.ref aYh, .ref aYt, .ref aYc])), (aYh, .inl (gI g, 3, .inl (ar ht))), (aYt, .inl (gI g, 36, .inl (ar yt))), (aG, .inr (3, [.ref aGn, .ref aGw, .ref aGs, .int (iI kn)])), (aGn, .inl (gI g, 200, .inl (ar nd))), (aGw, .inl (gI g, 200, .inl (ar wk))), (aTp, .inl (gI g, 200, .inl (ar tp))), (aYc, .inl (gI g, 36, .inl (ar yc))), (aO, .inl (gl.1, 1, .inr (.inl lo)))] sz) ((fun (u : Int × Int × Int × Int × Int × Int × Int × Int × Int × Int × (Int → Int) × (Int → Int) × (Int → Int) × (Nat → Int64)) => [(aR, .inr (10, [.ref aG, .ref aP, .ref aH, .ref aY, .ref aT, .ref aS, .ref aF, .ref aX, .int (iI pr), .int (iI tk), .int (iI tol), .int (iI hou)])), (aT, .inr (8, [.ref aTp, .ref aTt, .ref aTx, .ref aTy, .ref aE, .int (iI ld)])), (aE, .inr (2, [.int (iI ex), .int (iI ey), .int (iI ehx), .int (iI ehy)])), (aP, .inr (5, [.ref aPx, .ref aPy, .int (iI pn)])), (aPx, .inl (gI g, 200, .inl (ar bx))), (aPy, .inl (gI g, 200, .inl (ar byy))), (aF, .inr (2, [.int (iI u.1), .int (iI u.2.1), .int (iI u.2.2.1), .int (iI u.2.2.2.1)])), (aS, .inr (6, [.ref aQ, .ref aSt, .ref aSx, .ref aSy, .int (iI u.2.2.2.2.2.2.2.2.1), .int (iI u.2.2.2.2.2.2.2.2.2.1)])), (aQ, .inr (2, [.int (iI u.2.2.2.2.1), .int (iI u.2.2.2.2.2.1), .int (iI u.2.2.2.2.2.2.1), .int (iI u.2.2.2.2.2.2.2.1)])), (aSt, .inl (gI g, 4, .inl (ar u.2.2.2.2.2.2.2.2.2.2.1))), (aSx, .inl (gI g, 4, .inl (ar u.2.2.2.2.2.2.2.2.2.2.2.1))), (aSy, .inl (gI g, 4, .inl (ar u.2.2.2.2.2.2.2.2.2.2.2.2.1))), (aY, .inr (9, [.ref aYh, .ref aYt, .ref aYc])), (aYh, .inl (gI g, 3, .inl (ar ht))), (aYt, .inl (gI g, 36, .inl (ar yt))), (aG, .inr (3, [.ref aGn, .ref aGw, .ref aGs, .int (iI kn)])), (aGn, .inl (gI g, 200, .inl (ar nd))), (aGw, .inl (gI g, 200, .inl (ar wk))), (aTp, .inl (gI g, 200, .inl (ar tp))), (aYc, .inl (gI g, 36, .inl (ar yc))), (aO, .inl (gl.1, 1, .inr (.inl u.2.2.2.2.2.2.2.2.2.2.2.2.2)))]) u) t) (va_A [(aR, .inr (10, [.ref aG, .ref aP, .ref aH, .ref aY, .ref aT, .ref aS, .ref aF, .ref aX, .int (iI pr), .int (iI tk), .int (iI tol), .int (iI hou)])), (aT, .inr (8, [.ref aTp, .ref aTt, .ref aTx, .ref aTy, .ref aE, .int (iI ld)])), (aE, .inr (2, [.int (iI ex), .int (iI ey), .int (iI ehx), .int (iI ehy)])), (aP, .inr (5, [.ref aPx, .ref aPy, .int (iI pn)])), (aPx, .inl (gI g, 200, .inl (ar bx))), (aPy, .inl (gI g, 200, .inl (ar byy))), (aF, .inr (2, [.int (iI fx), .int (iI fy), .int (iI fhx), .int (iI fhy)])), (aS, .inr (6, [.ref aQ, .ref aSt, .ref aSx, .ref aSy, .int (iI sr), .int (iI sl)])), (aQ, .inr (2, [.int (iI qx), .int (iI qy), .int (iI qhx), .int (iI qhy)])), (aSt, .inl (gI g, 4, .inl (ar st))), (aSx, .inl (gI g, 4, .inl (ar sx))), (aSy, .inl (gI g, 4, .inl (ar sy))), (aY, .inr (9, [.ref aYh, .ref aYt, .ref aYc])), (aYh, .inl (gI g, 3, .inl (ar ht))), (aYt, .inl (gI g, 36, .inl (ar yt))), (aG, .inr (3, [.ref aGn, .ref aGw, .ref aGs, .int (iI kn)])), (aGn, .inl (gI g, 200, .inl (ar nd))), (aGw, .inl (gI g, 200, .inl (ar wk))), (aTp, .inl (gI g, 200, .inl (ar tp))), (aYc, .inl (gI g, 36, .inl (ar yc))), (aO, .inl (gl.1, 1, .inr (.inl lo)))] sz)) 2 12 (va_A [(aR, .inr (10, [.ref aG, .ref aP, .ref aH, .ref aY, .ref aT, .ref aS, .ref aF, .ref aX, .int (iI pr), .int (iI tk), .int (iI tol), .int (iI hou)])), (aT, .inr (8, [.ref aTp, .ref aTt, .ref aTx, .ref aTy, .ref aE, .int (iI ld)])), (aE, .inr (2, [.int (iI ex), .int (iI ey), .int (iI ehx), .int (iI ehy)])), (aP, .inr (5, [.ref aPx, .ref aPy, .int (iI pn)])), (aPx, .inl (gI g, 200, .inl (ar bx))), (aPy, .inl (gI g, 200, .inl (ar byy))), (aF, .inr (2, [.int (iI fx), .int (iI fy), .int (iI fhx), .int (iI fhy)])), (aS, .inr (6, [.ref aQ, .ref aSt, .ref aSx, .ref aSy, .int (iI sr), .int (iI sl)])), (aQ, .inr (2, [.int (iI qx), .int (iI qy), .int (iI qhx), .int (iI qhy)])), (aSt, .inl (gI g, 4, .inl (ar st))), (aSx, .inl (gI g, 4, .inl (ar sx))), (aSy, .inl (gI g, 4, .inl (ar sy))), (aY, .inr (9, [.ref aYh, .ref aYt, .ref aYc])), (aYh, .inl (gI g, 3, .inl (ar ht))), (aYt, .inl (gI g, 36, .inl (ar yt))), (aG, .inr (3, [.ref aGn, .ref aGw, .ref aGs, .int (iI kn)])), (aGn, .inl (gI g, 200, .inl (ar nd))), (aGw, .inl (gI g, 200, .inl (ar wk))), (aTp, .inl (gI g, 200, .inl (ar tp))), (aYc, .inl (gI g, 36, .inl (ar yc))), (aO, .inl (gl.1, 1, .inr (.inl lo)))] sz) := by
  refine x_enterH (y := yL_reasonFor) (ws := wsL_reasonFor) (g := g) (sz := sz) (av := [.ref aR, .int (iI sta), .int (iI po), .ref aO]) (WS := [(aR, .inr (10, [.ref aG, .ref aP, .ref aH, .ref aY, .ref aT, .ref aS, .ref aF, .ref aX, .int (iI pr), .int (iI tk), .int (iI tol), .int (iI hou)])), (aT, .inr (8, [.ref aTp, .ref aTt, .ref aTx, .ref aTy, .ref aE, .int (iI ld)])), (aE, .inr (2, [.int (iI ex), .int (iI ey), .int (iI ehx), .int (iI ehy)])), (aP, .inr (5, [.ref aPx, .ref aPy, .int (iI pn)])), (aPx, .inl (gI g, 200, .inl (ar bx))), (aPy, .inl (gI g, 200, .inl (ar byy))), (aF, .inr (2, [.int (iI fx), .int (iI fy), .int (iI fhx), .int (iI fhy)])), (aS, .inr (6, [.ref aQ, .ref aSt, .ref aSx, .ref aSy, .int (iI sr), .int (iI sl)])), (aQ, .inr (2, [.int (iI qx), .int (iI qy), .int (iI qhx), .int (iI qhy)])), (aSt, .inl (gI g, 4, .inl (ar st))), (aSx, .inl (gI g, 4, .inl (ar sx))), (aSy, .inl (gI g, 4, .inl (ar sy))), (aY, .inr (9, [.ref aYh, .ref aYt, .ref aYc])), (aYh, .inl (gI g, 3, .inl (ar ht))), (aYt, .inl (gI g, 36, .inl (ar yt))), (aG, .inr (3, [.ref aGn, .ref aGw, .ref aGs, .int (iI kn)])), (aGn, .inl (gI g, 200, .inl (ar nd))), (aGw, .inl (gI g, 200, .inl (ar wk))), (aTp, .inl (gI g, 200, .inl (ar tp))), (aYc, .inl (gI g, 36, .inl (ar yc))), (aO, .inl (gl.1, 1, .inr (.inl lo)))]) (cc := cL_reasonFor) (maxL := 5) (ret := some .int) (Qc := (fun A => (va_Qi (fun r u => r = iI ((fun (u : Int × Int × Int × Int × Int × Int × Int × Int × Int × Int × (Int → Int) × (Int → Int) × (Int → Int) × (Nat → Int64)) => rfT sta po) u) ∧ (fun (u : Int × Int × Int × Int × Int × Int × Int × Int × Int × Int × (Int → Int) × (Int → Int) × (Int → Int) × (Nat → Int64)) => (rfT sta po = 0 → u.2.2.2.2.2.2.2.2.2.2.2.2.2 0 = zL (reaF kn ld (ht sta) (mx 0 (yc (sta * 12 + (ht sta - 1)) + 24 - hou)) (lastP ld tp) po tk (takF nd wk pr ld) (devF pn bx byy kx ky ld ehx ehy (yt (sta * 12 + (ht sta - 1))) po) tol)) ∧ bnd u.2.2.2.2.2.2.2.2.2.2.1 0 9 ∧ bnd u.2.2.2.2.2.2.2.2.2.2.2.1 (-5) 5 ∧ bnd u.2.2.2.2.2.2.2.2.2.2.2.2.1 (-5) 5) u) (fun u t => xE g A ((fun (u : Int × Int × Int × Int × Int × Int × Int × Int × Int × Int × (Int → Int) × (Int → Int) × (Int → Int) × (Nat → Int64)) => [(aR, .inr (10, [.ref aG, .ref aP, .ref aH, .ref aY, .ref aT, .ref aS, .ref aF, .ref aX, .int (iI pr), .int (iI tk), .int (iI tol), .int (iI hou)])), (aT, .inr (8, [.ref aTp, .ref aTt, .ref aTx, .ref aTy, .ref aE, .int (iI ld)])), (aE, .inr (2, [.int (iI ex), .int (iI ey), .int (iI ehx), .int (iI ehy)])), (aP, .inr (5, [.ref aPx, .ref aPy, .int (iI pn)])), (aPx, .inl (gI g, 200, .inl (ar bx))), (aPy, .inl (gI g, 200, .inl (ar byy))), (aF, .inr (2, [.int (iI u.1), .int (iI u.2.1), .int (iI u.2.2.1), .int (iI u.2.2.2.1)])), (aS, .inr (6, [.ref aQ, .ref aSt, .ref aSx, .ref aSy, .int (iI u.2.2.2.2.2.2.2.2.1), .int (iI u.2.2.2.2.2.2.2.2.2.1)])), (aQ, .inr (2, [.int (iI u.2.2.2.2.1), .int (iI u.2.2.2.2.2.1), .int (iI u.2.2.2.2.2.2.1), .int (iI u.2.2.2.2.2.2.2.1)])), (aSt, .inl (gI g, 4, .inl (ar u.2.2.2.2.2.2.2.2.2.2.1))), (aSx, .inl (gI g, 4, .inl (ar u.2.2.2.2.2.2.2.2.2.2.2.1))), (aSy, .inl (gI g, 4, .inl (ar u.2.2.2.2.2.2.2.2.2.2.2.2.1))), (aY, .inr (9, [.ref aYh, .ref aYt, .ref aYc])), (aYh, .inl (gI g, 3, .inl (ar ht))), (aYt, .inl (gI g, 36, .inl (ar yt))), (aG, .inr (3, [.ref aGn, .ref aGw, .ref aGs, .int (iI kn)])), (aGn, .inl (gI g, 200, .inl (ar nd))), (aGw, .inl (gI g, 200, .inl (ar wk))), (aTp, .inl (gI g, 200, .inl (ar tp))), (aYc, .inl (gI g, 36, .inl (ar yc))), (aO, .inl (gl.1, 1, .inr (.inl u.2.2.2.2.2.2.2.2.2.2.2.2.2)))]) u) t) A))) (by decide) rfl (Nat.le_of_ble_eq_true rfl) ?_
  intro p e s m args below meth c A ls hx hb hr hml hown hts hlocks htab hL hC hP hD hS hA hl
  have hK := hC.1
  have hown : s.vm.findClass RL = some m.cls := hown
  have hl : lv_has ls 5 [(0, .ref aR), (1, .int (iI sta)), (2, .int (iI po)), (3, .ref aO)] := hl
  obtain ⟨H, hH⟩ : ∃ z, z = s.heap := ⟨_, rfl⟩
  obtain ⟨locs, hlo⟩ : ∃ z : List Loc, z = [] := ⟨_, rfl⟩
  obtain ⟨Q9, hQ9⟩ : ∃ z, z = MQ below (va_Qi (fun r u => r = iI ((fun (u : Int × Int × Int × Int × Int × Int × Int × Int × Int × Int × (Int → Int) × (Int → Int) × (Int → Int) × (Nat → Int64)) => rfT sta po) u) ∧ (fun (u : Int × Int × Int × Int × Int × Int × Int × Int × Int × Int × (Int → Int) × (Int → Int) × (Int → Int) × (Nat → Int64)) => (rfT sta po = 0 → u.2.2.2.2.2.2.2.2.2.2.2.2.2 0 = zL (reaF kn ld (ht sta) (mx 0 (yc (sta * 12 + (ht sta - 1)) + 24 - hou)) (lastP ld tp) po tk (takF nd wk pr ld) (devF pn bx byy kx ky ld ehx ehy (yt (sta * 12 + (ht sta - 1))) po) tol)) ∧ bnd u.2.2.2.2.2.2.2.2.2.2.1 0 9 ∧ bnd u.2.2.2.2.2.2.2.2.2.2.2.1 (-5) 5 ∧ bnd u.2.2.2.2.2.2.2.2.2.2.2.2.1 (-5) 5) u) (fun u t => xE g A ((fun (u : Int × Int × Int × Int × Int × Int × Int × Int × Int × Int × (Int → Int) × (Int → Int) × (Int → Int) × (Nat → Int64)) => [(aR, .inr (10, [.ref aG, .ref aP, .ref aH, .ref aY, .ref aT, .ref aS, .ref aF, .ref aX, .int (iI pr), .int (iI tk), .int (iI tol), .int (iI hou)])), (aT, .inr (8, [.ref aTp, .ref aTt, .ref aTx, .ref aTy, .ref aE, .int (iI ld)])), (aE, .inr (2, [.int (iI ex), .int (iI ey), .int (iI ehx), .int (iI ehy)])), (aP, .inr (5, [.ref aPx, .ref aPy, .int (iI pn)])), (aPx, .inl (gI g, 200, .inl (ar bx))), (aPy, .inl (gI g, 200, .inl (ar byy))), (aF, .inr (2, [.int (iI u.1), .int (iI u.2.1), .int (iI u.2.2.1), .int (iI u.2.2.2.1)])), (aS, .inr (6, [.ref aQ, .ref aSt, .ref aSx, .ref aSy, .int (iI u.2.2.2.2.2.2.2.2.1), .int (iI u.2.2.2.2.2.2.2.2.2.1)])), (aQ, .inr (2, [.int (iI u.2.2.2.2.1), .int (iI u.2.2.2.2.2.1), .int (iI u.2.2.2.2.2.2.1), .int (iI u.2.2.2.2.2.2.2.1)])), (aSt, .inl (gI g, 4, .inl (ar u.2.2.2.2.2.2.2.2.2.2.1))), (aSx, .inl (gI g, 4, .inl (ar u.2.2.2.2.2.2.2.2.2.2.2.1))), (aSy, .inl (gI g, 4, .inl (ar u.2.2.2.2.2.2.2.2.2.2.2.2.1))), (aY, .inr (9, [.ref aYh, .ref aYt, .ref aYc])), (aYh, .inl (gI g, 3, .inl (ar ht))), (aYt, .inl (gI g, 36, .inl (ar yt))), (aG, .inr (3, [.ref aGn, .ref aGw, .ref aGs, .int (iI kn)])), (aGn, .inl (gI g, 200, .inl (ar nd))), (aGw, .inl (gI g, 200, .inl (ar wk))), (aTp, .inl (gI g, 200, .inl (ar tp))), (aYc, .inl (gI g, 36, .inl (ar yc))), (aO, .inl (gl.1, 1, .inr (.inl u.2.2.2.2.2.2.2.2.2.2.2.2.2)))]) u) t) A) args s 2 12 A := ⟨_, rfl⟩
  have hP : va_P (gD g) vwCl [(aR, .inr (10, [.ref aG, .ref aP, .ref aH, .ref aY, .ref aT, .ref aS, .ref aF, .ref aX, .int (iI pr), .int (iI tk), .int (iI tol), .int (iI hou)])), (aT, .inr (8, [.ref aTp, .ref aTt, .ref aTx, .ref aTy, .ref aE, .int (iI ld)])), (aE, .inr (2, [.int (iI ex), .int (iI ey), .int (iI ehx), .int (iI ehy)])), (aP, .inr (5, [.ref aPx, .ref aPy, .int (iI pn)])), (aPx, .inl (gI g, 200, .inl (ar bx))), (aPy, .inl (gI g, 200, .inl (ar byy))), (aF, .inr (2, [.int (iI fx), .int (iI fy), .int (iI fhx), .int (iI fhy)])), (aS, .inr (6, [.ref aQ, .ref aSt, .ref aSx, .ref aSy, .int (iI sr), .int (iI sl)])), (aQ, .inr (2, [.int (iI qx), .int (iI qy), .int (iI qhx), .int (iI qhy)])), (aSt, .inl (gI g, 4, .inl (ar st))), (aSx, .inl (gI g, 4, .inl (ar sx))), (aSy, .inl (gI g, 4, .inl (ar sy))), (aY, .inr (9, [.ref aYh, .ref aYt, .ref aYc])), (aYh, .inl (gI g, 3, .inl (ar ht))), (aYt, .inl (gI g, 36, .inl (ar yt))), (aG, .inr (3, [.ref aGn, .ref aGw, .ref aGs, .int (iI kn)])), (aGn, .inl (gI g, 200, .inl (ar nd))), (aGw, .inl (gI g, 200, .inl (ar wk))), (aTp, .inl (gI g, 200, .inl (ar tp))), (aYc, .inl (gI g, 36, .inl (ar yc))), (aO, .inl (gl.1, 1, .inr (.inl lo)))] H := by rw [hH]; exact hP
  have hS : va_S A s.heap H locs := by rw [hH, hlo]; exact hS
  have goal_ : W p l e { frames := 8, cells := 2, slots := 12, locals := 134 } s m args below meth c H locs 0 0 Q9 (F0 m 0 ls []) := by
    clear hH hlo
    refine lv_aload_n hx hb dL_reasonFor_0 rfl (lv_at hl 3 rfl) ?_
    refine x_iconst hx hb dL_reasonFor_1 ?_
    refine lv_aload_n hx hb dL_reasonFor_2 rfl (lv_at hl 0 rfl) ?_
    refine lv_iload_n hx hb dL_reasonFor_3 rfl (lv_at hl 1 rfl) ?_
    refine lv_iload_n hx hb dL_reasonFor_4 rfl (lv_at hl 2 rfl) ?_
    refine x_calliX (S := Int × Int × Int × Int × Int × Int × Int × Int × Int × Int × (Int → Int) × (Int → Int) × (Int → Int)) (SX := Int × Int × Int × Int × Int × Int × Int × Int × Int × Int × (Int → Int) × (Int → Int) × (Int → Int)) (wc := [(aR, .inr (10, [.ref aG, .ref aP, .ref aH, .ref aY, .ref aT, .ref aS, .ref aF, .ref aX, .int (iI pr), .int (iI tk), .int (iI tol), .int (iI hou)])), (aT, .inr (8, [.ref aTp, .ref aTt, .ref aTx, .ref aTy, .ref aE, .int (iI ld)])), (aE, .inr (2, [.int (iI ex), .int (iI ey), .int (iI ehx), .int (iI ehy)])), (aP, .inr (5, [.ref aPx, .ref aPy, .int (iI pn)])), (aPx, .inl (gI g, 200, .inl (ar bx))), (aPy, .inl (gI g, 200, .inl (ar byy))), (aF, .inr (2, [.int (iI fx), .int (iI fy), .int (iI fhx), .int (iI fhy)])), (aS, .inr (6, [.ref aQ, .ref aSt, .ref aSx, .ref aSy, .int (iI sr), .int (iI sl)])), (aQ, .inr (2, [.int (iI qx), .int (iI qy), .int (iI qhx), .int (iI qhy)])), (aSt, .inl (gI g, 4, .inl (ar st))), (aSx, .inl (gI g, 4, .inl (ar sx))), (aSy, .inl (gI g, 4, .inl (ar sy))), (aY, .inr (9, [.ref aYh, .ref aYt, .ref aYc])), (aYh, .inl (gI g, 3, .inl (ar ht))), (aYt, .inl (gI g, 36, .inl (ar yt))), (aG, .inr (3, [.ref aGn, .ref aGw, .ref aGs, .int (iI kn)])), (aGn, .inl (gI g, 200, .inl (ar nd))), (aGw, .inl (gI g, 200, .inl (ar wk))), (aTp, .inl (gI g, 200, .inl (ar tp))), (aYc, .inl (gI g, 36, .inl (ar yc)))]) (wr := [(aO, .inl (gl.1, 1, .inr (.inl lo)))]) hC hP hD hS hA [0, 1, 2, 3, 4, 5, 6, 7, 8, 9, 10, 11, 12, 13, 14, 15, 16, 17, 18, 19] [20] [1, 2, 3, 4, 5, 6, 7, 8, 9, 10, 11, 12, 13, 14, 15, 16, 17, 18, 19, 20, 0] rfl rfl (fun hpre => vx_runV (As := [.int (iI sta), .int (iI po)]) (rest := [.int (iI 0), .ref aO]) ⟨hx, hb, hml, hown, hts⟩ (c_X8_reasonFor l hflags g H.size aR aG aP aH aY aT aS aF aX aTp aTt aTx aTy aE aPx aPy aQ aSt aSx aSy aYh aYt aYc aGn aGw aGs pr tk tol hou ld ex ey ehx ehy pn fx fy fhx fhy sr sl qx qy qhx qhy kn sta po bx byy st sx sy ht yt nd wk tp yc kx ky (by first | (first | assumption | omega | exact bnd_up (by assumption) (by omega) (by omega)) | fail "q8") (by first | (first | assumption | omega | exact bnd_up (by assumption) (by omega) (by omega)) | fail "q8") (by first | (first | assumption | omega | exact bnd_up (by assumption) (by omega) (by omega)) | fail "q8") (by first | (first | assumption | omega | exact bnd_up (by assumption) (by omega) (by omega)) | fail "q8") (by first | (first | assumption | omega | exact bnd_up (by assumption) (by omega) (by omega)) | fail "q8") (by first | (first | assumption | omega | exact bnd_up (by assumption) (by omega) (by omega)) | fail "q8") (by first | (first | assumption | omega | exact bnd_up (by assumption) (by omega) (by omega)) | fail "q8") (by first | (first | assumption | omega | exact bnd_up (by assumption) (by omega) (by omega)) | fail "q8") (by first | (first | assumption | omega | exact bnd_up (by assumption) (by omega) (by omega)) | fail "q8") (by first | (first | assumption | omega | exact bnd_up (by assumption) (by omega) (by omega)) | fail "q8") (by first | (first | assumption | omega | exact bnd_up (by assumption) (by omega) (by omega)) | fail "q8") (by first | (first | assumption | omega | exact bnd_up (by assumption) (by omega) (by omega)) | fail "q8") (by first | (first | assumption | omega | exact bnd_up (by assumption) (by omega) (by omega)) | fail "q8") (by first | (first | assumption | omega | exact bnd_up (by assumption) (by omega) (by omega)) | fail "q8") (by first | (first | assumption | omega | exact bnd_up (by assumption) (by omega) (by omega)) | fail "q8") (by first | (first | assumption | omega | exact bnd_up (by assumption) (by omega) (by omega)) | fail "q8") (by first | (first | assumption | omega | exact bnd_up (by assumption) (by omega) (by omega)) | fail "q8") (by first | (first | assumption | omega | exact bnd_up (by assumption) (by omega) (by omega)) | fail "q8") (by first | (first | assumption | omega | exact bnd_up (by assumption) (by omega) (by omega)) | fail "q8") (by first | (first | assumption | omega | exact bnd_up (by assumption) (by omega) (by omega)) | fail "q8") (by first | (first | assumption | omega | exact bnd_up (by assumption) (by omega) (by omega)) | fail "q8") (by first | (first | assumption | omega | exact bnd_up (by assumption) (by omega) (by omega)) | fail "q8") (by first | (first | assumption | omega | exact bnd_up (by assumption) (by omega) (by omega)) | fail "q8") (by first | (first | assumption | omega | exact bnd_up (by assumption) (by omega) (by omega)) | fail "q8") (by first | (first | assumption | omega | exact bnd_up (by assumption) (by omega) (by omega)) | fail "q8") (by first | (first | assumption | omega | exact bnd_up (by assumption) (by omega) (by omega)) | fail "q8")) (cwV 2 hts gL_reasonFor_X8_reasonFor rfl rfl rfl (by decide +kernel) ⟨Nat.le_of_ble_eq_true rfl, Nat.le_of_ble_eq_true rfl⟩) ⟨xB_blind, va_recv hK hP (ci := 10) (q0 := 0) rfl rfl, hpre _⟩ rfl rfl hl.1 rfl (lv_room (Nat.le_of_ble_eq_true rfl)) dL_reasonFor_5 ⟨Nat.le_of_ble_eq_true rfl, Nat.le_of_ble_eq_true rfl⟩) (fun (u : Int × Int × Int × Int × Int × Int × Int × Int × Int × Int × (Int → Int) × (Int → Int) × (Int → Int)) => [(aR, .inr (10, [.ref aG, .ref aP, .ref aH, .ref aY, .ref aT, .ref aS, .ref aF, .ref aX, .int (iI pr), .int (iI tk), .int (iI tol), .int (iI hou)])), (aT, .inr (8, [.ref aTp, .ref aTt, .ref aTx, .ref aTy, .ref aE, .int (iI ld)])), (aE, .inr (2, [.int (iI ex), .int (iI ey), .int (iI ehx), .int (iI ehy)])), (aP, .inr (5, [.ref aPx, .ref aPy, .int (iI pn)])), (aPx, .inl (gI g, 200, .inl (ar bx))), (aPy, .inl (gI g, 200, .inl (ar byy))), (aF, .inr (2, [.int (iI u.1), .int (iI u.2.1), .int (iI u.2.2.1), .int (iI u.2.2.2.1)])), (aS, .inr (6, [.ref aQ, .ref aSt, .ref aSx, .ref aSy, .int (iI u.2.2.2.2.2.2.2.2.1), .int (iI u.2.2.2.2.2.2.2.2.2.1)])), (aQ, .inr (2, [.int (iI u.2.2.2.2.1), .int (iI u.2.2.2.2.2.1), .int (iI u.2.2.2.2.2.2.1), .int (iI u.2.2.2.2.2.2.2.1)])), (aSt, .inl (gI g, 4, .inl (ar u.2.2.2.2.2.2.2.2.2.2.1))), (aSx, .inl (gI g, 4, .inl (ar u.2.2.2.2.2.2.2.2.2.2.2.1))), (aSy, .inl (gI g, 4, .inl (ar u.2.2.2.2.2.2.2.2.2.2.2.2))), (aY, .inr (9, [.ref aYh, .ref aYt, .ref aYc])), (aYh, .inl (gI g, 3, .inl (ar ht))), (aYt, .inl (gI g, 36, .inl (ar yt))), (aG, .inr (3, [.ref aGn, .ref aGw, .ref aGs, .int (iI kn)])), (aGn, .inl (gI g, 200, .inl (ar nd))), (aGw, .inl (gI g, 200, .inl (ar wk))), (aTp, .inl (gI g, 200, .inl (ar tp))), (aYc, .inl (gI g, 36, .inl (ar yc))), (aO, .inl (gl.1, 1, .inr (.inl lo)))]) (fun (u : Int × Int × Int × Int × Int × Int × Int × Int × Int × Int × (Int → Int) × (Int → Int) × (Int → Int)) => ([(aR, .inr (10, [.ref aG, .ref aP, .ref aH, .ref aY, .ref aT, .ref aS, .ref aF, .ref aX, .int (iI pr), .int (iI tk), .int (iI tol), .int (iI hou)])), (aT, .inr (8, [.ref aTp, .ref aTt, .ref aTx, .ref aTy, .ref aE, .int (iI ld)])), (aE, .inr (2, [.int (iI ex), .int (iI ey), .int (iI ehx), .int (iI ehy)])), (aP, .inr (5, [.ref aPx, .ref aPy, .int (iI pn)])), (aPx, .inl (gI g, 200, .inl (ar bx))), (aPy, .inl (gI g, 200, .inl (ar byy))), (aF, .inr (2, [.int (iI u.1), .int (iI u.2.1), .int (iI u.2.2.1), .int (iI u.2.2.2.1)])), (aS, .inr (6, [.ref aQ, .ref aSt, .ref aSx, .ref aSy, .int (iI u.2.2.2.2.2.2.2.2.1), .int (iI u.2.2.2.2.2.2.2.2.2.1)])), (aQ, .inr (2, [.int (iI u.2.2.2.2.1), .int (iI u.2.2.2.2.2.1), .int (iI u.2.2.2.2.2.2.1), .int (iI u.2.2.2.2.2.2.2.1)])), (aSt, .inl (gI g, 4, .inl (ar u.2.2.2.2.2.2.2.2.2.2.1))), (aSx, .inl (gI g, 4, .inl (ar u.2.2.2.2.2.2.2.2.2.2.2.1))), (aSy, .inl (gI g, 4, .inl (ar u.2.2.2.2.2.2.2.2.2.2.2.2))), (aY, .inr (9, [.ref aYh, .ref aYt, .ref aYc])), (aYh, .inl (gI g, 3, .inl (ar ht))), (aYt, .inl (gI g, 36, .inl (ar yt))), (aG, .inr (3, [.ref aGn, .ref aGw, .ref aGs, .int (iI kn)])), (aGn, .inl (gI g, 200, .inl (ar nd))), (aGw, .inl (gI g, 200, .inl (ar wk))), (aTp, .inl (gI g, 200, .inl (ar tp))), (aYc, .inl (gI g, 36, .inl (ar yc))), (aO, .inl (gl.1, 1, .inr (.inl lo)))] : va_W)) rfl rfl (by decide) (fun _ => rfl) (fun _ => rfl) rfl (fun E ce q9 u H locs hXP hPX hP hD hS hcell hv9 hcl => ?_) (fun u v_14 H locs hv_14 pv_14 hP hD hS => ?_)
    · skip
      obtain ⟨fx_o_15, fy_o_16, fhx_o_17, fhy_o_18, qx_o_19, qy_o_20, qhx_o_21, qhy_o_22, sr_o_23, sl_o_24, st_o_25, sx_o_26, sy_o_27⟩ := u
      have hXP : bnd st_o_25 0 9 ∧ bnd sx_o_26 (-5) 5 ∧ bnd sy_o_27 (-5) 5 := hXP
      have hP : va_P (gD g) vwCl [(aR, .inr (10, [.ref aG, .ref aP, .ref aH, .ref aY, .ref aT, .ref aS, .ref aF, .ref aX, .int (iI pr), .int (iI tk), .int (iI tol), .int (iI hou)])), (aT, .inr (8, [.ref aTp, .ref aTt, .ref aTx, .ref aTy, .ref aE, .int (iI ld)])), (aE, .inr (2, [.int (iI ex), .int (iI ey), .int (iI ehx), .int (iI ehy)])), (aP, .inr (5, [.ref aPx, .ref aPy, .int (iI pn)])), (aPx, .inl (gI g, 200, .inl (ar bx))), (aPy, .inl (gI g, 200, .inl (ar byy))), (aF, .inr (2, [.int (iI fx_o_15), .int (iI fy_o_16), .int (iI fhx_o_17), .int (iI fhy_o_18)])), (aS, .inr (6, [.ref aQ, .ref aSt, .ref aSx, .ref aSy, .int (iI sr_o_23), .int (iI sl_o_24)])), (aQ, .inr (2, [.int (iI qx_o_19), .int (iI qy_o_20), .int (iI qhx_o_21), .int (iI qhy_o_22)])), (aSt, .inl (gI g, 4, .inl (ar st_o_25))), (aSx, .inl (gI g, 4, .inl (ar sx_o_26))), (aSy, .inl (gI g, 4, .inl (ar sy_o_27))), (aY, .inr (9, [.ref aYh, .ref aYt, .ref aYc])), (aYh, .inl (gI g, 3, .inl (ar ht))), (aYt, .inl (gI g, 36, .inl (ar yt))), (aG, .inr (3, [.ref aGn, .ref aGw, .ref aGs, .int (iI kn)])), (aGn, .inl (gI g, 200, .inl (ar nd))), (aGw, .inl (gI g, 200, .inl (ar wk))), (aTp, .inl (gI g, 200, .inl (ar tp))), (aYc, .inl (gI g, 36, .inl (ar yc))), (aO, .inl (gl.1, 1, .inr (.inl lo)))] H := hP
      have hD : va_D A [(aR, .inr (10, [.ref aG, .ref aP, .ref aH, .ref aY, .ref aT, .ref aS, .ref aF, .ref aX, .int (iI pr), .int (iI tk), .int (iI tol), .int (iI hou)])), (aT, .inr (8, [.ref aTp, .ref aTt, .ref aTx, .ref aTy, .ref aE, .int (iI ld)])), (aE, .inr (2, [.int (iI ex), .int (iI ey), .int (iI ehx), .int (iI ehy)])), (aP, .inr (5, [.ref aPx, .ref aPy, .int (iI pn)])), (aPx, .inl (gI g, 200, .inl (ar bx))), (aPy, .inl (gI g, 200, .inl (ar byy))), (aF, .inr (2, [.int (iI fx_o_15), .int (iI fy_o_16), .int (iI fhx_o_17), .int (iI fhy_o_18)])), (aS, .inr (6, [.ref aQ, .ref aSt, .ref aSx, .ref aSy, .int (iI sr_o_23), .int (iI sl_o_24)])), (aQ, .inr (2, [.int (iI qx_o_19), .int (iI qy_o_20), .int (iI qhx_o_21), .int (iI qhy_o_22)])), (aSt, .inl (gI g, 4, .inl (ar st_o_25))), (aSx, .inl (gI g, 4, .inl (ar sx_o_26))), (aSy, .inl (gI g, 4, .inl (ar sy_o_27))), (aY, .inr (9, [.ref aYh, .ref aYt, .ref aYc])), (aYh, .inl (gI g, 3, .inl (ar ht))), (aYt, .inl (gI g, 36, .inl (ar yt))), (aG, .inr (3, [.ref aGn, .ref aGw, .ref aGs, .int (iI kn)])), (aGn, .inl (gI g, 200, .inl (ar nd))), (aGw, .inl (gI g, 200, .inl (ar wk))), (aTp, .inl (gI g, 200, .inl (ar tp))), (aYc, .inl (gI g, 36, .inl (ar yc))), (aO, .inl (gl.1, 1, .inr (.inl lo)))] := hD
      rcases hPX with ⟨hE, hp⟩ | ⟨hE, hp⟩
      · skip
        have hp : rfT sta po = 1 := hp
        subst hE
        refine vx_catch (E := "java/lang/IndexOutOfBoundsException") (name := "java/lang/IndexOutOfBoundsException") hown [] ⟨0, 10, 13, 24⟩ [⟨0, 10, 17, 13⟩] (by rw [htab]; rfl) (fun z hz => by cases hz) (by decide) (by decide) (hts (.classLink RL 24 "java/lang/IndexOutOfBoundsException") (List.mem_of_getElem? (i := 1) rfl)) (va_Nw.use rfl (hC.2.2.2.2.2.2.2.2.2.2.1 "java/lang/IndexOutOfBoundsException" (List.mem_of_getElem? (i := 2) rfl))) hcell hv9 hcl ?_
        refine lv_astore (lv' := [(4, .ref q9), (0, .ref aR), (1, .int (iI sta)), (2, .int (iI po)), (3, .ref aO)]) hx hb dL_reasonFor_13 hl (by decide) rfl (fun ls hl => ?_)
        refine x_iconst hx hb dL_reasonFor_15 ?_
        rw [hQ9]
        exact x_iret hx hb hr hlocks hP hD hS (S := Int × Int × Int × Int × Int × Int × Int × Int × Int × Int × (Int → Int) × (Int → Int) × (Int → Int) × (Nat → Int64)) rfl dL_reasonFor_16 ⟨fx_o_15, fy_o_16, fhx_o_17, fhy_o_18, qx_o_19, qy_o_20, qhx_o_21, qhy_o_22, sr_o_23, sl_o_24, st_o_25, sx_o_26, sy_o_27, lo⟩ (by
            first
            | (
               first | omega | (subst_vars; omega))
            | fail "q9") (by
            first
            | (
               refine ⟨fun h0 => ?_, ?_⟩
               · first | (exfalso; omega) | ((try dsimp only); rw [zl_up]; subst_vars; rfl) | ((try dsimp only); rw [zl_up]; congr 1)
               · first | exact hjk | exact hjk.2 | exact hXP | exact ⟨hb_st, hb_sx, hb_sy⟩)
            | fail "q9") rfl (Nat.le_of_ble_eq_true rfl) (Nat.le_of_ble_eq_true rfl)
      · skip
        have hp : rfT sta po = 2 := hp
        subst hE
        refine vx_catch (E := "java/lang/IllegalArgumentException") (name := "java/lang/IllegalArgumentException") hown [⟨0, 10, 13, 24⟩] ⟨0, 10, 17, 13⟩ [] (by rw [htab]; rfl) (fun z hz => by rcases List.mem_cons.mp hz with rfl | hz; exact Or.inr ⟨by decide, "java/lang/IndexOutOfBoundsException", (hts (.classLink RL 24 "java/lang/IndexOutOfBoundsException") (List.mem_of_getElem? (i := 1) rfl)), hL.2 ("java/lang/IllegalArgumentException", "java/lang/IndexOutOfBoundsException") (List.mem_of_getElem? (i := 1) (by decide +kernel))⟩; cases hz) (by decide) (by decide) (hts (.classLink RL 13 "java/lang/IllegalArgumentException") (List.mem_of_getElem? (i := 2) rfl)) (va_Nw.use rfl (hC.2.2.2.2.2.2.2.2.2.2.1 "java/lang/IllegalArgumentException" (List.mem_of_getElem? (i := 0) rfl))) hcell hv9 hcl ?_
        refine lv_astore (lv' := [(4, .ref q9), (0, .ref aR), (1, .int (iI sta)), (2, .int (iI po)), (3, .ref aO)]) hx hb dL_reasonFor_17 hl (by decide) rfl (fun ls hl => ?_)
        refine x_iconst hx hb dL_reasonFor_19 ?_
        rw [hQ9]
        exact x_iret hx hb hr hlocks hP hD hS (S := Int × Int × Int × Int × Int × Int × Int × Int × Int × Int × (Int → Int) × (Int → Int) × (Int → Int) × (Nat → Int64)) rfl dL_reasonFor_20 ⟨fx_o_15, fy_o_16, fhx_o_17, fhy_o_18, qx_o_19, qy_o_20, qhx_o_21, qhy_o_22, sr_o_23, sl_o_24, st_o_25, sx_o_26, sy_o_27, lo⟩ (by
            first
            | (
               first | omega | (subst_vars; omega))
            | fail "q9") (by
            first
            | (
               refine ⟨fun h0 => ?_, ?_⟩
               · first | (exfalso; omega) | ((try dsimp only); rw [zl_up]; subst_vars; rfl) | ((try dsimp only); rw [zl_up]; congr 1)
               · first | exact hjk | exact hjk.2 | exact hXP | exact ⟨hb_st, hb_sx, hb_sy⟩)
            | fail "q9") rfl (Nat.le_of_ble_eq_true rfl) (Nat.le_of_ble_eq_true rfl)
    · skip
      obtain ⟨fx_o_1, fy_o_2, fhx_o_3, fhy_o_4, qx_o_5, qy_o_6, qhx_o_7, qhy_o_8, sr_o_9, sl_o_10, st_o_11, sx_o_12, sy_o_13⟩ := u
      have hP : va_P (gD g) vwCl [(aR, .inr (10, [.ref aG, .ref aP, .ref aH, .ref aY, .ref aT, .ref aS, .ref aF, .ref aX, .int (iI pr), .int (iI tk), .int (iI tol), .int (iI hou)])), (aT, .inr (8, [.ref aTp, .ref aTt, .ref aTx, .ref aTy, .ref aE, .int (iI ld)])), (aE, .inr (2, [.int (iI ex), .int (iI ey), .int (iI ehx), .int (iI ehy)])), (aP, .inr (5, [.ref aPx, .ref aPy, .int (iI pn)])), (aPx, .inl (gI g, 200, .inl (ar bx))), (aPy, .inl (gI g, 200, .inl (ar byy))), (aF, .inr (2, [.int (iI fx_o_1), .int (iI fy_o_2), .int (iI fhx_o_3), .int (iI fhy_o_4)])), (aS, .inr (6, [.ref aQ, .ref aSt, .ref aSx, .ref aSy, .int (iI sr_o_9), .int (iI sl_o_10)])), (aQ, .inr (2, [.int (iI qx_o_5), .int (iI qy_o_6), .int (iI qhx_o_7), .int (iI qhy_o_8)])), (aSt, .inl (gI g, 4, .inl (ar st_o_11))), (aSx, .inl (gI g, 4, .inl (ar sx_o_12))), (aSy, .inl (gI g, 4, .inl (ar sy_o_13))), (aY, .inr (9, [.ref aYh, .ref aYt, .ref aYc])), (aYh, .inl (gI g, 3, .inl (ar ht))), (aYt, .inl (gI g, 36, .inl (ar yt))), (aG, .inr (3, [.ref aGn, .ref aGw, .ref aGs, .int (iI kn)])), (aGn, .inl (gI g, 200, .inl (ar nd))), (aGw, .inl (gI g, 200, .inl (ar wk))), (aTp, .inl (gI g, 200, .inl (ar tp))), (aYc, .inl (gI g, 36, .inl (ar yc))), (aO, .inl (gl.1, 1, .inr (.inl lo)))] H := hP
      have hD : va_D A [(aR, .inr (10, [.ref aG, .ref aP, .ref aH, .ref aY, .ref aT, .ref aS, .ref aF, .ref aX, .int (iI pr), .int (iI tk), .int (iI tol), .int (iI hou)])), (aT, .inr (8, [.ref aTp, .ref aTt, .ref aTx, .ref aTy, .ref aE, .int (iI ld)])), (aE, .inr (2, [.int (iI ex), .int (iI ey), .int (iI ehx), .int (iI ehy)])), (aP, .inr (5, [.ref aPx, .ref aPy, .int (iI pn)])), (aPx, .inl (gI g, 200, .inl (ar bx))), (aPy, .inl (gI g, 200, .inl (ar byy))), (aF, .inr (2, [.int (iI fx_o_1), .int (iI fy_o_2), .int (iI fhx_o_3), .int (iI fhy_o_4)])), (aS, .inr (6, [.ref aQ, .ref aSt, .ref aSx, .ref aSy, .int (iI sr_o_9), .int (iI sl_o_10)])), (aQ, .inr (2, [.int (iI qx_o_5), .int (iI qy_o_6), .int (iI qhx_o_7), .int (iI qhy_o_8)])), (aSt, .inl (gI g, 4, .inl (ar st_o_11))), (aSx, .inl (gI g, 4, .inl (ar sx_o_12))), (aSy, .inl (gI g, 4, .inl (ar sy_o_13))), (aY, .inr (9, [.ref aYh, .ref aYt, .ref aYc])), (aYh, .inl (gI g, 3, .inl (ar ht))), (aYt, .inl (gI g, 36, .inl (ar yt))), (aG, .inr (3, [.ref aGn, .ref aGw, .ref aGs, .int (iI kn)])), (aGn, .inl (gI g, 200, .inl (ar nd))), (aGw, .inl (gI g, 200, .inl (ar wk))), (aTp, .inl (gI g, 200, .inl (ar tp))), (aYc, .inl (gI g, 36, .inl (ar yc))), (aO, .inl (gl.1, 1, .inr (.inl lo)))] := hD
      have hv_14 : v_14 = reaF kn ld (ht sta) (mx 0 (yc (sta * 12 + (ht sta - 1)) + 24 - hou)) (lastP ld tp) po tk (takF nd wk pr ld) (devF pn bx byy kx ky ld ehx ehy (yt (sta * 12 + (ht sta - 1))) po) tol := hv_14
      obtain ⟨tv_14, pv_14⟩ := pv_14
      have tv_14 : rfT sta po = 0 := tv_14
      have pv_14 : (0 ≤ v_14 ∧ v_14 ≤ 200) ∧ bnd st_o_11 0 9 ∧ bnd sx_o_12 (-5) 5 ∧ bnd sy_o_13 (-5) 5 := by first | exact pv_14 | (rw [hv_14]; exact pv_14)
      have hjk := pv_14
      refine x_i2z hx hb dL_reasonFor_8 ?_
      refine va_last hx hb hL.1 hP hD hS 20 0 rfl rfl zl_in dL_reasonFor_9 (fun H locs hP hD hS => ?_)
      have hP : va_P (gD g) vwCl [(aR, .inr (10, [.ref aG, .ref aP, .ref aH, .ref aY, .ref aT, .ref aS, .ref aF, .ref aX, .int (iI pr), .int (iI tk), .int (iI tol), .int (iI hou)])), (aT, .inr (8, [.ref aTp, .ref aTt, .ref aTx, .ref aTy, .ref aE, .int (iI ld)])), (aE, .inr (2, [.int (iI ex), .int (iI ey), .int (iI ehx), .int (iI ehy)])), (aP, .inr (5, [.ref aPx, .ref aPy, .int (iI pn)])), (aPx, .inl (gI g, 200, .inl (ar bx))), (aPy, .inl (gI g, 200, .inl (ar byy))), (aF, .inr (2, [.int (iI fx_o_1), .int (iI fy_o_2), .int (iI fhx_o_3), .int (iI fhy_o_4)])), (aS, .inr (6, [.ref aQ, .ref aSt, .ref aSx, .ref aSy, .int (iI sr_o_9), .int (iI sl_o_10)])), (aQ, .inr (2, [.int (iI qx_o_5), .int (iI qy_o_6), .int (iI qhx_o_7), .int (iI qhy_o_8)])), (aSt, .inl (gI g, 4, .inl (ar st_o_11))), (aSx, .inl (gI g, 4, .inl (ar sx_o_12))), (aSy, .inl (gI g, 4, .inl (ar sy_o_13))), (aY, .inr (9, [.ref aYh, .ref aYt, .ref aYc])), (aYh, .inl (gI g, 3, .inl (ar ht))), (aYt, .inl (gI g, 36, .inl (ar yt))), (aG, .inr (3, [.ref aGn, .ref aGw, .ref aGs, .int (iI kn)])), (aGn, .inl (gI g, 200, .inl (ar nd))), (aGw, .inl (gI g, 200, .inl (ar wk))), (aTp, .inl (gI g, 200, .inl (ar tp))), (aYc, .inl (gI g, 36, .inl (ar yc))), (aO, .inl (gl.1, 1, .inr (.inl (vp_updL lo (iI 0).toNatClampNeg (zL v_14)))))] H := hP
      have hD : va_D A [(aR, .inr (10, [.ref aG, .ref aP, .ref aH, .ref aY, .ref aT, .ref aS, .ref aF, .ref aX, .int (iI pr), .int (iI tk), .int (iI tol), .int (iI hou)])), (aT, .inr (8, [.ref aTp, .ref aTt, .ref aTx, .ref aTy, .ref aE, .int (iI ld)])), (aE, .inr (2, [.int (iI ex), .int (iI ey), .int (iI ehx), .int (iI ehy)])), (aP, .inr (5, [.ref aPx, .ref aPy, .int (iI pn)])), (aPx, .inl (gI g, 200, .inl (ar bx))), (aPy, .inl (gI g, 200, .inl (ar byy))), (aF, .inr (2, [.int (iI fx_o_1), .int (iI fy_o_2), .int (iI fhx_o_3), .int (iI fhy_o_4)])), (aS, .inr (6, [.ref aQ, .ref aSt, .ref aSx, .ref aSy, .int (iI sr_o_9), .int (iI sl_o_10)])), (aQ, .inr (2, [.int (iI qx_o_5), .int (iI qy_o_6), .int (iI qhx_o_7), .int (iI qhy_o_8)])), (aSt, .inl (gI g, 4, .inl (ar st_o_11))), (aSx, .inl (gI g, 4, .inl (ar sx_o_12))), (aSy, .inl (gI g, 4, .inl (ar sy_o_13))), (aY, .inr (9, [.ref aYh, .ref aYt, .ref aYc])), (aYh, .inl (gI g, 3, .inl (ar ht))), (aYt, .inl (gI g, 36, .inl (ar yt))), (aG, .inr (3, [.ref aGn, .ref aGw, .ref aGs, .int (iI kn)])), (aGn, .inl (gI g, 200, .inl (ar nd))), (aGw, .inl (gI g, 200, .inl (ar wk))), (aTp, .inl (gI g, 200, .inl (ar tp))), (aYc, .inl (gI g, 36, .inl (ar yc))), (aO, .inl (gl.1, 1, .inr (.inl (vp_updL lo (iI 0).toNatClampNeg (zL v_14)))))] := hD
      refine lv_goto (tgt := 21) hx hb dL_reasonFor_10 (by decide) ?_
      refine x_iconst hx hb dL_reasonFor_21 ?_
      rw [hQ9]
      exact x_iret hx hb hr hlocks hP hD hS (S := Int × Int × Int × Int × Int × Int × Int × Int × Int × Int × (Int → Int) × (Int → Int) × (Int → Int) × (Nat → Int64)) rfl dL_reasonFor_22 ⟨fx_o_1, fy_o_2, fhx_o_3, fhy_o_4, qx_o_5, qy_o_6, qhx_o_7, qhy_o_8, sr_o_9, sl_o_10, st_o_11, sx_o_12, sy_o_13, (vp_updL lo (iI 0).toNatClampNeg (zL v_14))⟩ (by
          first
          | (
             first | omega | (subst_vars; omega))
          | fail "q9") (by
          first
          | (
             refine ⟨fun h0 => ?_, ?_⟩
             · first | (exfalso; omega) | ((try dsimp only); rw [zl_up]; subst_vars; rfl) | ((try dsimp only); rw [zl_up]; congr 1)
             · first | exact hjk | exact hjk.2 | exact hXP | exact ⟨hb_st, hb_sx, hb_sy⟩)
          | fail "q9") rfl (Nat.le_of_ble_eq_true rfl) (Nat.le_of_ble_eq_true rfl)
  rw [hH, hlo, hQ9] at goal_
  exact goal_

set_option maxHeartbeats 4000000 in
set_option maxRecDepth 100000 in
theorem c_L_lay (l : Launch) (hflags : l.stackTraces = false) (g : xg) (gl : ClassId × ClassId) (sz : Nat) (aR aG aP aH aY aT aS aF aX aTp aTt aTx aTy aE aPx aPy aQ aSt aSx aSy aYh aYt aYc aGn aGw aGs aO : Nat) (pr tk tol hou ld ex ey ehx ehy pn fx fy fhx fhy sr sl qx qy qhx qhy kn sta po : Int) (bx byy st sx sy ht yt nd wk tp yc sk tt kx ky : Int → Int) (lo : Nat → Int64) (hkn : 0 ≤ kn ∧ kn ≤ 200) (hpn : 0 ≤ pn ∧ pn ≤ 200) (hld : 0 ≤ ld ∧ ld ≤ 200) (hhou : 0 ≤ hou ∧ hou ≤ 5000) (hpr : 0 ≤ pr ∧ pr ≤ 100) (htk : 0 ≤ tk ∧ tk ≤ 1000) (htol : 0 ≤ tol ∧ tol ≤ 9999) (hb_nd : bnd nd 0 100) (hb_wk : bnd wk 0 20) (hb_bx : bnd bx (-5) 5) (hb_byy : bnd byy (-5) 5) (hb_tp : bnd tp 0 7) (hb_yt : bnd yt 0 9) (hb_yc : bnd yc 0 5000) (hb_ht : bnd ht 0 12) (hehx : -2000 ≤ ehx ∧ ehx ≤ 2000) (hehy : -2000 ≤ ehy ∧ ehy ≤ 2000) (hex : -400000 ≤ ex ∧ ex ≤ 400000) (hey : -400000 ≤ ey ∧ ey ≤ 400000) (hb_st : bnd st 0 9) (hb_sx : bnd sx (-5) 5) (hb_sy : bnd sy (-5) 5) (helx : ex = lastF ld kx) (hely : ey = lastF ld ky) (hb_tt : bnd tt 0 9) (hr_sta : iR sta) (hr_po : iR po) : Met l yL_lay wsL_lay { frames := 8, cells := 3, slots := 18, locals := 135 } (va_Pc [.ref aR, .int (iI sta), .int (iI po), .ref aO] (xBL g gl [(aR, .inr (10, [.ref aG, .ref aP, .ref aH, .ref aY, .ref aT, .ref aS, .ref aF, .ref aX, .int (iI pr), .int (iI tk), .int (iI tol), .int (iI hou)])), (aT, .inr (8, [.ref aTp, .ref aTt, .ref aTx, .ref aTy, .ref aE, .int (iI ld)])), (aE, .inr (2, [.int (iI ex), .int (iI ey), .int (iI ehx), .int (iI ehy)])), (aP, .inr (5, [.ref aPx, .ref aPy, .int (iI pn)])), (aPx, .inl (gI g, 200, .inl (ar bx))), (aPy, .inl (gI g, 200, .inl (ar byy))), (aF, .inr (2, [.int (iI fx), .int (iI fy), .int (iI fhx), .int (iI fhy)])), (aS, .inr (6, [.ref aQ, .ref aSt, .ref aSx, .ref aSy, .int (iI sr), .int (iI sl)])), (aQ, .inr (2, [.int (iI qx), .int (iI qy), .int (iI qhx), .int (iI qhy)])), (aSt, .inl (gI g, 4, .inl (ar st))), (aSx, .inl (gI g, 4, .inl (ar sx))), (aSy, .inl (gI g, 4, .inl (ar sy))), (aY, .inr (9, [.ref aYh, .ref aYt, .ref aYc])), (aYh, .inl (gI g, 3, .inl (ar ht))), (aYt, .inl (gI g, 36, .inl (ar yt))), (aG, .inr (3, [.ref aGn, .ref aGw, .ref aGs, .int (iI kn)])), (aGn, .inl (gI g, 200, .inl (ar nd))), (aGw, .inl (gI g, 200, .inl (ar wk))), (aTp, .inl (gI g, 200, .inl (ar tp))), (aYc, .inl (gI g, 36, .inl (ar yc))), (aGs, .inl (gI g, 200, .inl (ar sk))), (aTt, .inl (gI g, 200, .inl (ar tt))), (aTx, .inl (gI g, 200, .inl (ar kx))), (aTy, .inl (gI g, 200, .inl (ar ky))), (aO, .inl (gl.1, 1, .inr (.inl lo)))] sz)) (va_Qi (fun r u => r = iI ((fun (u : Int × Int × Int × Int × Int × Int × Int × Int × Int × Int × (Int → Int) × (Int → Int) × (Int → Int) × (Nat → Int64)) => laT sta po (reaF kn ld (ht sta) (mx 0 (yc (sta * 12 + (ht sta - 1)) + 24 - hou)) (lastP ld tp) po tk (takF nd wk pr ld) (devF pn bx byy kx ky ld ehx ehy (yt (sta * 12 + (ht sta - 1))) po) tol) hou) u) ∧ (fun (u : Int × Int × Int × Int × Int × Int × Int × Int × Int × Int × (Int → Int) × (Int → Int) × (Int → Int) × (Nat → Int64)) => (laT sta po (reaF kn ld (ht sta) (mx 0 (yc (sta * 12 + (ht sta - 1)) + 24 - hou)) (lastP ld tp) po tk (takF nd wk pr ld) (devF pn bx byy kx ky ld ehx ehy (yt (sta * 12 + (ht sta - 1))) po) tol) hou = 0 → u.2.2.2.2.2.2.2.2.2.2.2.2.2 0 = zL ld) ∧ bnd u.2.2.2.2.2.2.2.2.2.2.1 0 9 ∧ bnd u.2.2.2.2.2.2.2.2.2.2.2.1 (-5) 5 ∧ bnd u.2.2.2.2.2.2.2.2.2.2.2.2.1 (-5) 5) u) (fun u t => xE g (va_A [(aR, .inr (10, [.ref aG, .ref aP, .ref aH, .ref aY, .ref aT, .ref aS, .ref aF, .ref aX, .int (iI pr), .int (iI tk), .int (iI tol), .int (iI hou)])), (aT, .inr (8, [.ref aTp, .ref aTt, .ref aTx, .ref aTy, .ref aE, .int (iI ld)])), (aE, .inr (2, [.int (iI ex), .int (iI ey), .int (iI ehx), .int (iI ehy)])), (aP, .inr (5, [.ref aPx, .ref aPy, .int (iI pn)])), (aPx, .inl (gI g, 200, .inl (ar bx))), (aPy, .inl (gI g, 200, .inl (ar byy))), (aF, .inr (2, [.int (iI fx), .int (iI fy), .int (iI fhx), .int (iI fhy)])), (aS, .inr (6, [.ref aQ, .ref aSt, .ref aSx, .ref aSy, .int (iI sr), .int (iI sl)])), (aQ, .inr (2, [.int (iI qx), .int (iI qy), .int (iI qhx), .int (iI qhy)])), (aSt, .inl (gI g, 4, .inl (ar st))), (aSx, .inl (gI g, 4, .inl (ar sx))), (aSy, .inl (gI g, 4, .inl (ar sy))), (aY, .inr (9, [.ref aYh, .ref aYt, .ref aYc])), (aYh, .inl (gI g, 3, .inl (ar ht))), (aYt, .inl (gI g, 36, .inl (ar yt))), (aG, .inr (3, [.ref aGn, .ref aGw, .ref aGs, .int (iI kn)])), (aGn, .inl (gI g, 200, .inl (ar nd))), (aGw, .inl (gI g, 200, .inl (ar wk))), (aTp, .inl (gI g, 200, .inl (ar tp))), (aYc, .inl (gI g, 36, .inl (ar yc))), (aGs, .inl (gI g, 200, .inl (ar sk))), (aTt, .inl (gI g, 200, .inl (ar tt))), (aTx, .inl (gI g, 200, .inl (ar kx))), (aTy, .inl (gI g, 200, .inl (ar ky))), (aO, .inl (gl.1, 1, .inr (.inl lo)))] sz) ((fun (u : Int × Int × Int × Int × Int × Int × Int × Int × Int × Int × (Int → Int) × (Int → Int) × (Int → Int) × (Nat → Int64)) => [(aR, .inr (10, [.ref aG, .ref aP, .ref aH, .ref aY, .ref aT, .ref aS, .ref aF, .ref aX, .int (iI pr), .int (iI (if laT sta po (reaF kn ld (ht sta) (mx 0 (yc (sta * 12 + (ht sta - 1)) + 24 - hou)) (lastP ld tp) po tk (takF nd wk pr ld) (devF pn bx byy kx ky ld ehx ehy (yt (sta * 12 + (ht sta - 1))) po) tol) hou = 0 then (tk - takF nd wk pr ld) else tk)), .int (iI tol), .int (iI (if laT sta po (reaF kn ld (ht sta) (mx 0 (yc (sta * 12 + (ht sta - 1)) + 24 - hou)) (lastP ld tp) po tk (takF nd wk pr ld) (devF pn bx byy kx ky ld ehx ehy (yt (sta * 12 + (ht sta - 1))) po) tol) hou = 0 then (hou + 2) else hou))])), (aT, .inr (8, [.ref aTp, .ref aTt, .ref aTx, .ref aTy, .ref aE, .int (iI (if laT sta po (reaF kn ld (ht sta) (mx 0 (yc (sta * 12 + (ht sta - 1)) + 24 - hou)) (lastP ld tp) po tk (takF nd wk pr ld) (devF pn bx byy kx ky ld ehx ehy (yt (sta * 12 + (ht sta - 1))) po) tol) hou = 0 then (ld + 1) else ld))])), (aE, .inr (2, [.int (iI (if laT sta po (reaF kn ld (ht sta) (mx 0 (yc (sta * 12 + (ht sta - 1)) + 24 - hou)) (lastP ld tp) po tk (takF nd wk pr ld) (devF pn bx byy kx ky ld ehx ehy (yt (sta * 12 + (ht sta - 1))) po) tol) hou = 0 then (lastF ld kx + (ehx + (yt (sta * 12 + (ht sta - 1))) * toSide po)) else ex)), .int (iI (if laT sta po (reaF kn ld (ht sta) (mx 0 (yc (sta * 12 + (ht sta - 1)) + 24 - hou)) (lastP ld tp) po tk (takF nd wk pr ld) (devF pn bx byy kx ky ld ehx ehy (yt (sta * 12 + (ht sta - 1))) po) tol) hou = 0 then (lastF ld ky + (ehy + (yt (sta * 12 + (ht sta - 1))) * upward po)) else ey)), .int (iI (if laT sta po (reaF kn ld (ht sta) (mx 0 (yc (sta * 12 + (ht sta - 1)) + 24 - hou)) (lastP ld tp) po tk (takF nd wk pr ld) (devF pn bx byy kx ky ld ehx ehy (yt (sta * 12 + (ht sta - 1))) po) tol) hou = 0 then (ehx + (yt (sta * 12 + (ht sta - 1))) * toSide po) else ehx)), .int (iI (if laT sta po (reaF kn ld (ht sta) (mx 0 (yc (sta * 12 + (ht sta - 1)) + 24 - hou)) (lastP ld tp) po tk (takF nd wk pr ld) (devF pn bx byy kx ky ld ehx ehy (yt (sta * 12 + (ht sta - 1))) po) tol) hou = 0 then (ehy + (yt (sta * 12 + (ht sta - 1))) * upward po) else ehy))])), (aP, .inr (5, [.ref aPx, .ref aPy, .int (iI pn)])), (aPx, .inl (gI g, 200, .inl (ar bx))), (aPy, .inl (gI g, 200, .inl (ar byy))), (aF, .inr (2, [.int (iI u.1), .int (iI u.2.1), .int (iI u.2.2.1), .int (iI u.2.2.2.1)])), (aS, .inr (6, [.ref aQ, .ref aSt, .ref aSx, .ref aSy, .int (iI u.2.2.2.2.2.2.2.2.1), .int (iI u.2.2.2.2.2.2.2.2.2.1)])), (aQ, .inr (2, [.int (iI u.2.2.2.2.1), .int (iI u.2.2.2.2.2.1), .int (iI u.2.2.2.2.2.2.1), .int (iI u.2.2.2.2.2.2.2.1)])), (aSt, .inl (gI g, 4, .inl (ar u.2.2.2.2.2.2.2.2.2.2.1))), (aSx, .inl (gI g, 4, .inl (ar u.2.2.2.2.2.2.2.2.2.2.2.1))), (aSy, .inl (gI g, 4, .inl (ar u.2.2.2.2.2.2.2.2.2.2.2.2.1))), (aY, .inr (9, [.ref aYh, .ref aYt, .ref aYc])), (aYh, .inl (gI g, 3, .inl (ar (if laT sta po (reaF kn ld (ht sta) (mx 0 (yc (sta * 12 + (ht sta - 1)) + 24 - hou)) (lastP ld tp) po tk (takF nd wk pr ld) (devF pn bx byy kx ky ld ehx ehy (yt (sta * 12 + (ht sta - 1))) po) tol) hou = 0 then (up ht sta (ht sta - 1)) else ht)))), (aYt, .inl (gI g, 36, .inl (ar yt))), (aG, .inr (3, [.ref aGn, .ref aGw, .ref aGs, .int (iI kn)])), (aGn, .inl (gI g, 200, .inl (ar nd))), (aGw, .inl (gI g, 200, .inl (ar wk))), (aTp, .inl (gI g, 200, .inl (ar (if laT sta po (reaF kn ld (ht sta) (mx 0 (yc (sta * 12 + (ht sta - 1)) + 24 - hou)) (lastP ld tp) po tk (takF nd wk pr ld) (devF pn bx byy kx ky ld ehx ehy (yt (sta * 12 + (ht sta - 1))) po) tol) hou = 0 then (up tp ld po) else tp)))), (aYc, .inl (gI g, 36, .inl (ar yc))), (aGs, .inl (gI g, 200, .inl (ar (if laT sta po (reaF kn ld (ht sta) (mx 0 (yc (sta * 12 + (ht sta - 1)) + 24 - hou)) (lastP ld tp) po tk (takF nd wk pr ld) (devF pn bx byy kx ky ld ehx ehy (yt (sta * 12 + (ht sta - 1))) po) tol) hou = 0 then (sinkF kn (sinkF kn (sinkF kn sk ld (mx 0 (gt0 kn nd ld - pr) * gt0 kn wk ld / 10)) (ld - 1) ((mx 0 (gt0 kn nd ld - pr) * gt0 kn wk ld / 10) / 2)) (ld + 1) ((mx 0 (gt0 kn nd ld - pr) * gt0 kn wk ld / 10) / 2)) else sk)))), (aTt, .inl (gI g, 200, .inl (ar (if laT sta po (reaF kn ld (ht sta) (mx 0 (yc (sta * 12 + (ht sta - 1)) + 24 - hou)) (lastP ld tp) po tk (takF nd wk pr ld) (devF pn bx byy kx ky ld ehx ehy (yt (sta * 12 + (ht sta - 1))) po) tol) hou = 0 then (up tt ld (yt (sta * 12 + (ht sta - 1)))) else tt)))), (aTx, .inl (gI g, 200, .inl (ar (if laT sta po (reaF kn ld (ht sta) (mx 0 (yc (sta * 12 + (ht sta - 1)) + 24 - hou)) (lastP ld tp) po tk (takF nd wk pr ld) (devF pn bx byy kx ky ld ehx ehy (yt (sta * 12 + (ht sta - 1))) po) tol) hou = 0 then (up kx ld (lastF ld kx + (ehx + (yt (sta * 12 + (ht sta - 1))) * toSide po))) else kx)))), (aTy, .inl (gI g, 200, .inl (ar (if laT sta po (reaF kn ld (ht sta) (mx 0 (yc (sta * 12 + (ht sta - 1)) + 24 - hou)) (lastP ld tp) po tk (takF nd wk pr ld) (devF pn bx byy kx ky ld ehx ehy (yt (sta * 12 + (ht sta - 1))) po) tol) hou = 0 then (up ky ld (lastF ld ky + (ehy + (yt (sta * 12 + (ht sta - 1))) * upward po))) else ky)))), (aO, .inl (gl.1, 1, .inr (.inl u.2.2.2.2.2.2.2.2.2.2.2.2.2)))]) u) t) (va_A [(aR, .inr (10, [.ref aG, .ref aP, .ref aH, .ref aY, .ref aT, .ref aS, .ref aF, .ref aX, .int (iI pr), .int (iI tk), .int (iI tol), .int (iI hou)])), (aT, .inr (8, [.ref aTp, .ref aTt, .ref aTx, .ref aTy, .ref aE, .int (iI ld)])), (aE, .inr (2, [.int (iI ex), .int (iI ey), .int (iI ehx), .int (iI ehy)])), (aP, .inr (5, [.ref aPx, .ref aPy, .int (iI pn)])), (aPx, .inl (gI g, 200, .inl (ar bx))), (aPy, .inl (gI g, 200, .inl (ar byy))), (aF, .inr (2, [.int (iI fx), .int (iI fy), .int (iI fhx), .int (iI fhy)])), (aS, .inr (6, [.ref aQ, .ref aSt, .ref aSx, .ref aSy, .int (iI sr), .int (iI sl)])), (aQ, .inr (2, [.int (iI qx), .int (iI qy), .int (iI qhx), .int (iI qhy)])), (aSt, .inl (gI g, 4, .inl (ar st))), (aSx, .inl (gI g, 4, .inl (ar sx))), (aSy, .inl (gI g, 4, .inl (ar sy))), (aY, .inr (9, [.ref aYh, .ref aYt, .ref aYc])), (aYh, .inl (gI g, 3, .inl (ar ht))), (aYt, .inl (gI g, 36, .inl (ar yt))), (aG, .inr (3, [.ref aGn, .ref aGw, .ref aGs, .int (iI kn)])), (aGn, .inl (gI g, 200, .inl (ar nd))), (aGw, .inl (gI g, 200, .inl (ar wk))), (aTp, .inl (gI g, 200, .inl (ar tp))), (aYc, .inl (gI g, 36, .inl (ar yc))), (aGs, .inl (gI g, 200, .inl (ar sk))), (aTt, .inl (gI g, 200, .inl (ar tt))), (aTx, .inl (gI g, 200, .inl (ar kx))), (aTy, .inl (gI g, 200, .inl (ar ky))), (aO, .inl (gl.1, 1, .inr (.inl lo)))] sz)) 3 18 (va_A [(aR, .inr (10, [.ref aG, .ref aP, .ref aH, .ref aY, .ref aT, .ref aS, .ref aF, .ref aX, .int (iI pr), .int (iI tk), .int (iI tol), .int (iI hou)])), (aT, .inr (8, [.ref aTp, .ref aTt, .ref aTx, .ref aTy, .ref aE, .int (iI ld)])), (aE, .inr (2, [.int (iI ex), .int (iI ey), .int (iI ehx), .int (iI ehy)])), (aP, .inr (5, [.ref aPx, .ref aPy, .int (iI pn)])), (aPx, .inl (gI g, 200, .inl (ar bx))), (aPy, .inl (gI g, 200, .inl (ar byy))), (aF, .inr (2, [.int (iI fx), .int (iI fy), .int (iI fhx), .int (iI fhy)])), (aS, .inr (6, [.ref aQ, .ref aSt, .ref aSx, .ref aSy, .int (iI sr), .int (iI sl)])), (aQ, .inr (2, [.int (iI qx), .int (iI qy), .int (iI qhx), .int (iI qhy)])), (aSt, .inl (gI g, 4, .inl (ar st))), (aSx, .inl (gI g, 4, .inl (ar sx))), (aSy, .inl (gI g, 4, .inl (ar sy))), (aY, .inr (9, [.ref aYh, .ref aYt, .ref aYc])), (aYh, .inl (gI g, 3, .inl (ar ht))), (aYt, .inl (gI g, 36, .inl (ar yt))), (aG, .inr (3, [.ref aGn, .ref aGw, .ref aGs, .int (iI kn)])), (aGn, .inl (gI g, 200, .inl (ar nd))), (aGw, .inl (gI g, 200, .inl (ar wk))), (aTp, .inl (gI g, 200, .inl (ar tp))), (aYc, .inl (gI g, 36, .inl (ar yc))), (aGs, .inl (gI g, 200, .inl (ar sk))), (aTt, .inl (gI g, 200, .inl (ar tt))), (aTx, .inl (gI g, 200, .inl (ar kx))), (aTy, .inl (gI g, 200, .inl (ar ky))), (aO, .inl (gl.1, 1, .inr (.inl lo)))] sz) := by
  refine x_enterH (y := yL_lay) (ws := wsL_lay) (g := g) (sz := sz) (av := [.ref aR, .int (iI sta), .int (iI po), .ref aO]) (WS := [(aR, .inr (10, [.ref aG, .ref aP, .ref aH, .ref aY, .ref aT, .ref aS, .ref aF, .ref aX, .int (iI pr), .int (iI tk), .int (iI tol), .int (iI hou)])), (aT, .inr (8, [.ref aTp, .ref aTt, .ref aTx, .ref aTy, .ref aE, .int (iI ld)])), (aE, .inr (2, [.int (iI ex), .int (iI ey), .int (iI ehx), .int (iI ehy)])), (aP, .inr (5, [.ref aPx, .ref aPy, .int (iI pn)])), (aPx, .inl (gI g, 200, .inl (ar bx))), (aPy, .inl (gI g, 200, .inl (ar byy))), (aF, .inr (2, [.int (iI fx), .int (iI fy), .int (iI fhx), .int (iI fhy)])), (aS, .inr (6, [.ref aQ, .ref aSt, .ref aSx, .ref aSy, .int (iI sr), .int (iI sl)])), (aQ, .inr (2, [.int (iI qx), .int (iI qy), .int (iI qhx), .int (iI qhy)])), (aSt, .inl (gI g, 4, .inl (ar st))), (aSx, .inl (gI g, 4, .inl (ar sx))), (aSy, .inl (gI g, 4, .inl (ar sy))), (aY, .inr (9, [.ref aYh, .ref aYt, .ref aYc])), (aYh, .inl (gI g, 3, .inl (ar ht))), (aYt, .inl (gI g, 36, .inl (ar yt))), (aG, .inr (3, [.ref aGn, .ref aGw, .ref aGs, .int (iI kn)])), (aGn, .inl (gI g, 200, .inl (ar nd))), (aGw, .inl (gI g, 200, .inl (ar wk))), (aTp, .inl (gI g, 200, .inl (ar tp))), (aYc, .inl (gI g, 36, .inl (ar yc))), (aGs, .inl (gI g, 200, .inl (ar sk))), (aTt, .inl (gI g, 200, .inl (ar tt))), (aTx, .inl (gI g, 200, .inl (ar kx))), (aTy, .inl (gI g, 200, .inl (ar ky))), (aO, .inl (gl.1, 1, .inr (.inl lo)))]) (cc := cL_lay) (maxL := 5) (ret := some .int) (Qc := (fun A => (va_Qi (fun r u => r = iI ((fun (u : Int × Int × Int × Int × Int × Int × Int × Int × Int × Int × (Int → Int) × (Int → Int) × (Int → Int) × (Nat → Int64)) => laT sta po (reaF kn ld (ht sta) (mx 0 (yc (sta * 12 + (ht sta - 1)) + 24 - hou)) (lastP ld tp) po tk (takF nd wk pr ld) (devF pn bx byy kx ky ld ehx ehy (yt (sta * 12 + (ht sta - 1))) po) tol) hou) u) ∧ (fun (u : Int × Int × Int × Int × Int × Int × Int × Int × Int × Int × (Int → Int) × (Int → Int) × (Int → Int) × (Nat → Int64)) => (laT sta po (reaF kn ld (ht sta) (mx 0 (yc (sta * 12 + (ht sta - 1)) + 24 - hou)) (lastP ld tp) po tk (takF nd wk pr ld) (devF pn bx byy kx ky ld ehx ehy (yt (sta * 12 + (ht sta - 1))) po) tol) hou = 0 → u.2.2.2.2.2.2.2.2.2.2.2.2.2 0 = zL ld) ∧ bnd u.2.2.2.2.2.2.2.2.2.2.1 0 9 ∧ bnd u.2.2.2.2.2.2.2.2.2.2.2.1 (-5) 5 ∧ bnd u.2.2.2.2.2.2.2.2.2.2.2.2.1 (-5) 5) u) (fun u t => xE g A ((fun (u : Int × Int × Int × Int × Int × Int × Int × Int × Int × Int × (Int → Int) × (Int → Int) × (Int → Int) × (Nat → Int64)) => [(aR, .inr (10, [.ref aG, .ref aP, .ref aH, .ref aY, .ref aT, .ref aS, .ref aF, .ref aX, .int (iI pr), .int (iI (if laT sta po (reaF kn ld (ht sta) (mx 0 (yc (sta * 12 + (ht sta - 1)) + 24 - hou)) (lastP ld tp) po tk (takF nd wk pr ld) (devF pn bx byy kx ky ld ehx ehy (yt (sta * 12 + (ht sta - 1))) po) tol) hou = 0 then (tk - takF nd wk pr ld) else tk)), .int (iI tol), .int (iI (if laT sta po (reaF kn ld (ht sta) (mx 0 (yc (sta * 12 + (ht sta - 1)) + 24 - hou)) (lastP ld tp) po tk (takF nd wk pr ld) (devF pn bx byy kx ky ld ehx ehy (yt (sta * 12 + (ht sta - 1))) po) tol) hou = 0 then (hou + 2) else hou))])), (aT, .inr (8, [.ref aTp, .ref aTt, .ref aTx, .ref aTy, .ref aE, .int (iI (if laT sta po (reaF kn ld (ht sta) (mx 0 (yc (sta * 12 + (ht sta - 1)) + 24 - hou)) (lastP ld tp) po tk (takF nd wk pr ld) (devF pn bx byy kx ky ld ehx ehy (yt (sta * 12 + (ht sta - 1))) po) tol) hou = 0 then (ld + 1) else ld))])), (aE, .inr (2, [.int (iI (if laT sta po (reaF kn ld (ht sta) (mx 0 (yc (sta * 12 + (ht sta - 1)) + 24 - hou)) (lastP ld tp) po tk (takF nd wk pr ld) (devF pn bx byy kx ky ld ehx ehy (yt (sta * 12 + (ht sta - 1))) po) tol) hou = 0 then (lastF ld kx + (ehx + (yt (sta * 12 + (ht sta - 1))) * toSide po)) else ex)), .int (iI (if laT sta po (reaF kn ld (ht sta) (mx 0 (yc (sta * 12 + (ht sta - 1)) + 24 - hou)) (lastP ld tp) po tk (takF nd wk pr ld) (devF pn bx byy kx ky ld ehx ehy (yt (sta * 12 + (ht sta - 1))) po) tol) hou = 0 then (lastF ld ky + (ehy + (yt (sta * 12 + (ht sta - 1))) * upward po)) else ey)), .int (iI (if laT sta po (reaF kn ld (ht sta) (mx 0 (yc (sta * 12 + (ht sta - 1)) + 24 - hou)) (lastP ld tp) po tk (takF nd wk pr ld) (devF pn bx byy kx ky ld ehx ehy (yt (sta * 12 + (ht sta - 1))) po) tol) hou = 0 then (ehx + (yt (sta * 12 + (ht sta - 1))) * toSide po) else ehx)), .int (iI (if laT sta po (reaF kn ld (ht sta) (mx 0 (yc (sta * 12 + (ht sta - 1)) + 24 - hou)) (lastP ld tp) po tk (takF nd wk pr ld) (devF pn bx byy kx ky ld ehx ehy (yt (sta * 12 + (ht sta - 1))) po) tol) hou = 0 then (ehy + (yt (sta * 12 + (ht sta - 1))) * upward po) else ehy))])), (aP, .inr (5, [.ref aPx, .ref aPy, .int (iI pn)])), (aPx, .inl (gI g, 200, .inl (ar bx))), (aPy, .inl (gI g, 200, .inl (ar byy))), (aF, .inr (2, [.int (iI u.1), .int (iI u.2.1), .int (iI u.2.2.1), .int (iI u.2.2.2.1)])), (aS, .inr (6, [.ref aQ, .ref aSt, .ref aSx, .ref aSy, .int (iI u.2.2.2.2.2.2.2.2.1), .int (iI u.2.2.2.2.2.2.2.2.2.1)])), (aQ, .inr (2, [.int (iI u.2.2.2.2.1), .int (iI u.2.2.2.2.2.1), .int (iI u.2.2.2.2.2.2.1), .int (iI u.2.2.2.2.2.2.2.1)])), (aSt, .inl (gI g, 4, .inl (ar u.2.2.2.2.2.2.2.2.2.2.1))), (aSx, .inl (gI g, 4, .inl (ar u.2.2.2.2.2.2.2.2.2.2.2.1))), (aSy, .inl (gI g, 4, .inl (ar u.2.2.2.2.2.2.2.2.2.2.2.2.1))), (aY, .inr (9, [.ref aYh, .ref aYt, .ref aYc])), (aYh, .inl (gI g, 3, .inl (ar (if laT sta po (reaF kn ld (ht sta) (mx 0 (yc (sta * 12 + (ht sta - 1)) + 24 - hou)) (lastP ld tp) po tk (takF nd wk pr ld) (devF pn bx byy kx ky ld ehx ehy (yt (sta * 12 + (ht sta - 1))) po) tol) hou = 0 then (up ht sta (ht sta - 1)) else ht)))), (aYt, .inl (gI g, 36, .inl (ar yt))), (aG, .inr (3, [.ref aGn, .ref aGw, .ref aGs, .int (iI kn)])), (aGn, .inl (gI g, 200, .inl (ar nd))), (aGw, .inl (gI g, 200, .inl (ar wk))), (aTp, .inl (gI g, 200, .inl (ar (if laT sta po (reaF kn ld (ht sta) (mx 0 (yc (sta * 12 + (ht sta - 1)) + 24 - hou)) (lastP ld tp) po tk (takF nd wk pr ld) (devF pn bx byy kx ky ld ehx ehy (yt (sta * 12 + (ht sta - 1))) po) tol) hou = 0 then (up tp ld po) else tp)))), (aYc, .inl (gI g, 36, .inl (ar yc))), (aGs, .inl (gI g, 200, .inl (ar (if laT sta po (reaF kn ld (ht sta) (mx 0 (yc (sta * 12 + (ht sta - 1)) + 24 - hou)) (lastP ld tp) po tk (takF nd wk pr ld) (devF pn bx byy kx ky ld ehx ehy (yt (sta * 12 + (ht sta - 1))) po) tol) hou = 0 then (sinkF kn (sinkF kn (sinkF kn sk ld (mx 0 (gt0 kn nd ld - pr) * gt0 kn wk ld / 10)) (ld - 1) ((mx 0 (gt0 kn nd ld - pr) * gt0 kn wk ld / 10) / 2)) (ld + 1) ((mx 0 (gt0 kn nd ld - pr) * gt0 kn wk ld / 10) / 2)) else sk)))), (aTt, .inl (gI g, 200, .inl (ar (if laT sta po (reaF kn ld (ht sta) (mx 0 (yc (sta * 12 + (ht sta - 1)) + 24 - hou)) (lastP ld tp) po tk (takF nd wk pr ld) (devF pn bx byy kx ky ld ehx ehy (yt (sta * 12 + (ht sta - 1))) po) tol) hou = 0 then (up tt ld (yt (sta * 12 + (ht sta - 1)))) else tt)))), (aTx, .inl (gI g, 200, .inl (ar (if laT sta po (reaF kn ld (ht sta) (mx 0 (yc (sta * 12 + (ht sta - 1)) + 24 - hou)) (lastP ld tp) po tk (takF nd wk pr ld) (devF pn bx byy kx ky ld ehx ehy (yt (sta * 12 + (ht sta - 1))) po) tol) hou = 0 then (up kx ld (lastF ld kx + (ehx + (yt (sta * 12 + (ht sta - 1))) * toSide po))) else kx)))), (aTy, .inl (gI g, 200, .inl (ar (if laT sta po (reaF kn ld (ht sta) (mx 0 (yc (sta * 12 + (ht sta - 1)) + 24 - hou)) (lastP ld tp) po tk (takF nd wk pr ld) (devF pn bx byy kx ky ld ehx ehy (yt (sta * 12 + (ht sta - 1))) po) tol) hou = 0 then (up ky ld (lastF ld ky + (ehy + (yt (sta * 12 + (ht sta - 1))) * upward po))) else ky)))), (aO, .inl (gl.1, 1, .inr (.inl u.2.2.2.2.2.2.2.2.2.2.2.2.2)))]) u) t) A))) (by decide) rfl (Nat.le_of_ble_eq_true rfl) ?_
  intro p e s m args below meth c A ls hx hb hr hml hown hts hlocks htab hL hC hP hD hS hA hl
  have hK := hC.1
  have hown : s.vm.findClass RL = some m.cls := hown
  have hl : lv_has ls 5 [(0, .ref aR), (1, .int (iI sta)), (2, .int (iI po)), (3, .ref aO)] := hl
  obtain ⟨H, hH⟩ : ∃ z, z = s.heap := ⟨_, rfl⟩
  obtain ⟨locs, hlo⟩ : ∃ z : List Loc, z = [] := ⟨_, rfl⟩
  obtain ⟨Q9, hQ9⟩ : ∃ z, z = MQ below (va_Qi (fun r u => r = iI ((fun (u : Int × Int × Int × Int × Int × Int × Int × Int × Int × Int × (Int → Int) × (Int → Int) × (Int → Int) × (Nat → Int64)) => laT sta po (reaF kn ld (ht sta) (mx 0 (yc (sta * 12 + (ht sta - 1)) + 24 - hou)) (lastP ld tp) po tk (takF nd wk pr ld) (devF pn bx byy kx ky ld ehx ehy (yt (sta * 12 + (ht sta - 1))) po) tol) hou) u) ∧ (fun (u : Int × Int × Int × Int × Int × Int × Int × Int × Int × Int × (Int → Int) × (Int → Int) × (Int → Int) × (Nat → Int64)) => (laT sta po (reaF kn ld (ht sta) (mx 0 (yc (sta * 12 + (ht sta - 1)) + 24 - hou)) (lastP ld tp) po tk (takF nd wk pr ld) (devF pn bx byy kx ky ld ehx ehy (yt (sta * 12 + (ht sta - 1))) po) tol) hou = 0 → u.2.2.2.2.2.2.2.2.2.2.2.2.2 0 = zL ld) ∧ bnd u.2.2.2.2.2.2.2.2.2.2.1 0 9 ∧ bnd u.2.2.2.2.2.2.2.2.2.2.2.1 (-5) 5 ∧ bnd u.2.2.2.2.2.2.2.2.2.2.2.2.1 (-5) 5) u) (fun u t => xE g A ((fun (u : Int × Int × Int × Int × Int × Int × Int × Int × Int × Int × (Int → Int) × (Int → Int) × (Int → Int) × (Nat → Int64)) => [(aR, .inr (10, [.ref aG, .ref aP, .ref aH, .ref aY, .ref aT, .ref aS, .ref aF, .ref aX, .int (iI pr), .int (iI (if laT sta po (reaF kn ld (ht sta) (mx 0 (yc (sta * 12 + (ht sta - 1)) + 24 - hou)) (lastP ld tp) po tk (takF nd wk pr ld) (devF pn bx byy kx ky ld ehx ehy (yt (sta * 12 + (ht sta - 1))) po) tol) hou = 0 then (tk - takF nd wk pr ld) else tk)), .int (iI tol), .int (iI (if laT sta po (reaF kn ld (ht sta) (mx 0 (yc (sta * 12 + (ht sta - 1)) + 24 - hou)) (lastP ld tp) po tk (takF nd wk pr ld) (devF pn bx byy kx ky ld ehx ehy (yt (sta * 12 + (ht sta - 1))) po) tol) hou = 0 then (hou + 2) else hou))])), (aT, .inr (8, [.ref aTp, .ref aTt, .ref aTx, .ref aTy, .ref aE, .int (iI (if laT sta po (reaF kn ld (ht sta) (mx 0 (yc (sta * 12 + (ht sta - 1)) + 24 - hou)) (lastP ld tp) po tk (takF nd wk pr ld) (devF pn bx byy kx ky ld ehx ehy (yt (sta * 12 + (ht sta - 1))) po) tol) hou = 0 then (ld + 1) else ld))])), (aE, .inr (2, [.int (iI (if laT sta po (reaF kn ld (ht sta) (mx 0 (yc (sta * 12 + (ht sta - 1)) + 24 - hou)) (lastP ld tp) po tk (takF nd wk pr ld) (devF pn bx byy kx ky ld ehx ehy (yt (sta * 12 + (ht sta - 1))) po) tol) hou = 0 then (lastF ld kx + (ehx + (yt (sta * 12 + (ht sta - 1))) * toSide po)) else ex)), .int (iI (if laT sta po (reaF kn ld (ht sta) (mx 0 (yc (sta * 12 + (ht sta - 1)) + 24 - hou)) (lastP ld tp) po tk (takF nd wk pr ld) (devF pn bx byy kx ky ld ehx ehy (yt (sta * 12 + (ht sta - 1))) po) tol) hou = 0 then (lastF ld ky + (ehy + (yt (sta * 12 + (ht sta - 1))) * upward po)) else ey)), .int (iI (if laT sta po (reaF kn ld (ht sta) (mx 0 (yc (sta * 12 + (ht sta - 1)) + 24 - hou)) (lastP ld tp) po tk (takF nd wk pr ld) (devF pn bx byy kx ky ld ehx ehy (yt (sta * 12 + (ht sta - 1))) po) tol) hou = 0 then (ehx + (yt (sta * 12 + (ht sta - 1))) * toSide po) else ehx)), .int (iI (if laT sta po (reaF kn ld (ht sta) (mx 0 (yc (sta * 12 + (ht sta - 1)) + 24 - hou)) (lastP ld tp) po tk (takF nd wk pr ld) (devF pn bx byy kx ky ld ehx ehy (yt (sta * 12 + (ht sta - 1))) po) tol) hou = 0 then (ehy + (yt (sta * 12 + (ht sta - 1))) * upward po) else ehy))])), (aP, .inr (5, [.ref aPx, .ref aPy, .int (iI pn)])), (aPx, .inl (gI g, 200, .inl (ar bx))), (aPy, .inl (gI g, 200, .inl (ar byy))), (aF, .inr (2, [.int (iI u.1), .int (iI u.2.1), .int (iI u.2.2.1), .int (iI u.2.2.2.1)])), (aS, .inr (6, [.ref aQ, .ref aSt, .ref aSx, .ref aSy, .int (iI u.2.2.2.2.2.2.2.2.1), .int (iI u.2.2.2.2.2.2.2.2.2.1)])), (aQ, .inr (2, [.int (iI u.2.2.2.2.1), .int (iI u.2.2.2.2.2.1), .int (iI u.2.2.2.2.2.2.1), .int (iI u.2.2.2.2.2.2.2.1)])), (aSt, .inl (gI g, 4, .inl (ar u.2.2.2.2.2.2.2.2.2.2.1))), (aSx, .inl (gI g, 4, .inl (ar u.2.2.2.2.2.2.2.2.2.2.2.1))), (aSy, .inl (gI g, 4, .inl (ar u.2.2.2.2.2.2.2.2.2.2.2.2.1))), (aY, .inr (9, [.ref aYh, .ref aYt, .ref aYc])), (aYh, .inl (gI g, 3, .inl (ar (if laT sta po (reaF kn ld (ht sta) (mx 0 (yc (sta * 12 + (ht sta - 1)) + 24 - hou)) (lastP ld tp) po tk (takF nd wk pr ld) (devF pn bx byy kx ky ld ehx ehy (yt (sta * 12 + (ht sta - 1))) po) tol) hou = 0 then (up ht sta (ht sta - 1)) else ht)))), (aYt, .inl (gI g, 36, .inl (ar yt))), (aG, .inr (3, [.ref aGn, .ref aGw, .ref aGs, .int (iI kn)])), (aGn, .inl (gI g, 200, .inl (ar nd))), (aGw, .inl (gI g, 200, .inl (ar wk))), (aTp, .inl (gI g, 200, .inl (ar (if laT sta po (reaF kn ld (ht sta) (mx 0 (yc (sta * 12 + (ht sta - 1)) + 24 - hou)) (lastP ld tp) po tk (takF nd wk pr ld) (devF pn bx byy kx ky ld ehx ehy (yt (sta * 12 + (ht sta - 1))) po) tol) hou = 0 then (up tp ld po) else tp)))), (aYc, .inl (gI g, 36, .inl (ar yc))), (aGs, .inl (gI g, 200, .inl (ar (if laT sta po (reaF kn ld (ht sta) (mx 0 (yc (sta * 12 + (ht sta - 1)) + 24 - hou)) (lastP ld tp) po tk (takF nd wk pr ld) (devF pn bx byy kx ky ld ehx ehy (yt (sta * 12 + (ht sta - 1))) po) tol) hou = 0 then (sinkF kn (sinkF kn (sinkF kn sk ld (mx 0 (gt0 kn nd ld - pr) * gt0 kn wk ld / 10)) (ld - 1) ((mx 0 (gt0 kn nd ld - pr) * gt0 kn wk ld / 10) / 2)) (ld + 1) ((mx 0 (gt0 kn nd ld - pr) * gt0 kn wk ld / 10) / 2)) else sk)))), (aTt, .inl (gI g, 200, .inl (ar (if laT sta po (reaF kn ld (ht sta) (mx 0 (yc (sta * 12 + (ht sta - 1)) + 24 - hou)) (lastP ld tp) po tk (takF nd wk pr ld) (devF pn bx byy kx ky ld ehx ehy (yt (sta * 12 + (ht sta - 1))) po) tol) hou = 0 then (up tt ld (yt (sta * 12 + (ht sta - 1)))) else tt)))), (aTx, .inl (gI g, 200, .inl (ar (if laT sta po (reaF kn ld (ht sta) (mx 0 (yc (sta * 12 + (ht sta - 1)) + 24 - hou)) (lastP ld tp) po tk (takF nd wk pr ld) (devF pn bx byy kx ky ld ehx ehy (yt (sta * 12 + (ht sta - 1))) po) tol) hou = 0 then (up kx ld (lastF ld kx + (ehx + (yt (sta * 12 + (ht sta - 1))) * toSide po))) else kx)))), (aTy, .inl (gI g, 200, .inl (ar (if laT sta po (reaF kn ld (ht sta) (mx 0 (yc (sta * 12 + (ht sta - 1)) + 24 - hou)) (lastP ld tp) po tk (takF nd wk pr ld) (devF pn bx byy kx ky ld ehx ehy (yt (sta * 12 + (ht sta - 1))) po) tol) hou = 0 then (up ky ld (lastF ld ky + (ehy + (yt (sta * 12 + (ht sta - 1))) * upward po))) else ky)))), (aO, .inl (gl.1, 1, .inr (.inl u.2.2.2.2.2.2.2.2.2.2.2.2.2)))]) u) t) A) args s 3 18 A := ⟨_, rfl⟩
  have hP : va_P (gD g) vwCl [(aR, .inr (10, [.ref aG, .ref aP, .ref aH, .ref aY, .ref aT, .ref aS, .ref aF, .ref aX, .int (iI pr), .int (iI tk), .int (iI tol), .int (iI hou)])), (aT, .inr (8, [.ref aTp, .ref aTt, .ref aTx, .ref aTy, .ref aE, .int (iI ld)])), (aE, .inr (2, [.int (iI ex), .int (iI ey), .int (iI ehx), .int (iI ehy)])), (aP, .inr (5, [.ref aPx, .ref aPy, .int (iI pn)])), (aPx, .inl (gI g, 200, .inl (ar bx))), (aPy, .inl (gI g, 200, .inl (ar byy))), (aF, .inr (2, [.int (iI fx), .int (iI fy), .int (iI fhx), .int (iI fhy)])), (aS, .inr (6, [.ref aQ, .ref aSt, .ref aSx, .ref aSy, .int (iI sr), .int (iI sl)])), (aQ, .inr (2, [.int (iI qx), .int (iI qy), .int (iI qhx), .int (iI qhy)])), (aSt, .inl (gI g, 4, .inl (ar st))), (aSx, .inl (gI g, 4, .inl (ar sx))), (aSy, .inl (gI g, 4, .inl (ar sy))), (aY, .inr (9, [.ref aYh, .ref aYt, .ref aYc])), (aYh, .inl (gI g, 3, .inl (ar ht))), (aYt, .inl (gI g, 36, .inl (ar yt))), (aG, .inr (3, [.ref aGn, .ref aGw, .ref aGs, .int (iI kn)])), (aGn, .inl (gI g, 200, .inl (ar nd))), (aGw, .inl (gI g, 200, .inl (ar wk))), (aTp, .inl (gI g, 200, .inl (ar tp))), (aYc, .inl (gI g, 36, .inl (ar yc))), (aGs, .inl (gI g, 200, .inl (ar sk))), (aTt, .inl (gI g, 200, .inl (ar tt))), (aTx, .inl (gI g, 200, .inl (ar kx))), (aTy, .inl (gI g, 200, .inl (ar ky))), (aO, .inl (gl.1, 1, .inr (.inl lo)))] H := by rw [hH]; exact hP
  have hS : va_S A s.heap H locs := by rw [hH, hlo]; exact hS
  have goal_ : W p l e { frames := 8, cells := 3, slots := 18, locals := 135 } s m args below meth c H locs 0 0 Q9 (F0 m 0 ls []) := by
    clear hH hlo
    refine lv_aload_n hx hb dL_lay_0 rfl (lv_at hl 3 rfl) ?_
    refine x_iconst hx hb dL_lay_1 ?_
    refine lv_aload_n hx hb dL_lay_2 rfl (lv_at hl 0 rfl) ?_
    refine lv_iload_n hx hb dL_lay_3 rfl (lv_at hl 1 rfl) ?_
    refine lv_iload_n hx hb dL_lay_4 rfl (lv_at hl 2 rfl) ?_
    refine x_calliX (S := Int × Int × Int × Int × Int × Int × Int × Int × Int × Int × (Int → Int) × (Int → Int) × (Int → Int)) (SX := Int × Int × Int × Int × Int × Int × Int × Int × Int × Int × (Int → Int) × (Int → Int) × (Int → Int)) (wc := [(aR, .inr (10, [.ref aG, .ref aP, .ref aH, .ref aY, .ref aT, .ref aS, .ref aF, .ref aX, .int (iI pr), .int (iI tk), .int (iI tol), .int (iI hou)])), (aT, .inr (8, [.ref aTp, .ref aTt, .ref aTx, .ref aTy, .ref aE, .int (iI ld)])), (aE, .inr (2, [.int (iI ex), .int (iI ey), .int (iI ehx), .int (iI ehy)])), (aP, .inr (5, [.ref aPx, .ref aPy, .int (iI pn)])), (aPx, .inl (gI g, 200, .inl (ar bx))), (aPy, .inl (gI g, 200, .inl (ar byy))), (aF, .inr (2, [.int (iI fx), .int (iI fy), .int (iI fhx), .int (iI fhy)])), (aS, .inr (6, [.ref aQ, .ref aSt, .ref aSx, .ref aSy, .int (iI sr), .int (iI sl)])), (aQ, .inr (2, [.int (iI qx), .int (iI qy), .int (iI qhx), .int (iI qhy)])), (aSt, .inl (gI g, 4, .inl (ar st))), (aSx, .inl (gI g, 4, .inl (ar sx))), (aSy, .inl (gI g, 4, .inl (ar sy))), (aY, .inr (9, [.ref aYh, .ref aYt, .ref aYc])), (aYh, .inl (gI g, 3, .inl (ar ht))), (aYt, .inl (gI g, 36, .inl (ar yt))), (aG, .inr (3, [.ref aGn, .ref aGw, .ref aGs, .int (iI kn)])), (aGn, .inl (gI g, 200, .inl (ar nd))), (aGw, .inl (gI g, 200, .inl (ar wk))), (aTp, .inl (gI g, 200, .inl (ar tp))), (aYc, .inl (gI g, 36, .inl (ar yc))), (aGs, .inl (gI g, 200, .inl (ar sk))), (aTt, .inl (gI g, 200, .inl (ar tt))), (aTx, .inl (gI g, 200, .inl (ar kx))), (aTy, .inl (gI g, 200, .inl (ar ky)))]) (wr := [(aO, .inl (gl.1, 1, .inr (.inl lo)))]) hC hP hD hS hA [0, 1, 2, 3, 4, 5, 6, 7, 8, 9, 10, 11, 12, 13, 14, 15, 16, 17, 18, 19, 20, 21, 22, 23] [24] [1, 2, 3, 4, 5, 6, 7, 8, 9, 10, 11, 12, 13, 14, 15, 16, 17, 18, 19, 20, 21, 22, 23, 24, 0] rfl rfl (fun hpre => vx_runV (As := [.int (iI sta), .int (iI po)]) (rest := [.int (iI 0), .ref aO]) ⟨hx, hb, hml, hown, hts⟩ (c_X8_lay l hflags g H.size aR aG aP aH aY aT aS aF aX aTp aTt aTx aTy aE aPx aPy aQ aSt aSx aSy aYh aYt aYc aGn aGw aGs pr tk tol hou ld ex ey ehx ehy pn fx fy fhx fhy sr sl qx qy qhx qhy kn sta po bx byy st sx sy ht yt nd wk tp yc sk tt kx ky (by first | (first | assumption | omega | exact bnd_up (by assumption) (by omega) (by omega)) | fail "q8") (by first | (first | assumption | omega | exact bnd_up (by assumption) (by omega) (by omega)) | fail "q8") (by first | (first | assumption | omega | exact bnd_up (by assumption) (by omega) (by omega)) | fail "q8") (by first | (first | assumption | omega | exact bnd_up (by assumption) (by omega) (by omega)) | fail "q8") (by first | (first | assumption | omega | exact bnd_up (by assumption) (by omega) (by omega)) | fail "q8") (by first | (first | assumption | omega | exact bnd_up (by assumption) (by omega) (by omega)) | fail "q8") (by first | (first | assumption | omega | exact bnd_up (by assumption) (by omega) (by omega)) | fail "q8") (by first | (first | assumption | omega | exact bnd_up (by assumption) (by omega) (by omega)) | fail "q8") (by first | (first | assumption | omega | exact bnd_up (by assumption) (by omega) (by omega)) | fail "q8") (by first | (first | assumption | omega | exact bnd_up (by assumption) (by omega) (by omega)) | fail "q8") (by first | (first | assumption | omega | exact bnd_up (by assumption) (by omega) (by omega)) | fail "q8") (by first | (first | assumption | omega | exact bnd_up (by assumption) (by omega) (by omega)) | fail "q8") (by first | (first | assumption | omega | exact bnd_up (by assumption) (by omega) (by omega)) | fail "q8") (by first | (first | assumption | omega | exact bnd_up (by assumption) (by omega) (by omega)) | fail "q8") (by first | (first | assumption | omega | exact bnd_up (by assumption) (by omega) (by omega)) | fail "q8") (by first | (first | assumption | omega | exact bnd_up (by assumption) (by omega) (by omega)) | fail "q8") (by first | (first | assumption | omega | exact bnd_up (by assumption) (by omega) (by omega)) | fail "q8") (by first | (first | assumption | omega | exact bnd_up (by assumption) (by omega) (by omega)) | fail "q8") (by first | (first | assumption | omega | exact bnd_up (by assumption) (by omega) (by omega)) | fail "q8") (by first | (first | assumption | omega | exact bnd_up (by assumption) (by omega) (by omega)) | fail "q8") (by first | (first | assumption | omega | exact bnd_up (by assumption) (by omega) (by omega)) | fail "q8") (by first | (first | assumption | omega | exact bnd_up (by assumption) (by omega) (by omega)) | fail "q8") (by first | (first | assumption | omega | exact bnd_up (by assumption) (by omega) (by omega)) | fail "q8") (by first | (first | assumption | omega | exact bnd_up (by assumption) (by omega) (by omega)) | fail "q8") (by first | (first | assumption | omega | exact bnd_up (by assumption) (by omega) (by omega)) | fail "q8") (by first | (first | assumption | omega | exact bnd_up (by assumption) (by omega) (by omega)) | fail "q8") (by first | (first | assumption | omega | exact bnd_up (by assumption) (by omega) (by omega)) | fail "q8")) (cwV 2 hts gL_lay_X8_lay rfl rfl rfl (by decide +kernel) ⟨Nat.le_of_ble_eq_true rfl, Nat.le_of_ble_eq_true rfl⟩) ⟨xB_blind, va_recv hK hP (ci := 10) (q0 := 0) rfl rfl, hpre _⟩ rfl rfl hl.1 rfl (lv_room (Nat.le_of_ble_eq_true rfl)) dL_lay_5 ⟨Nat.le_of_ble_eq_true rfl, Nat.le_of_ble_eq_true rfl⟩) (fun (u : Int × Int × Int × Int × Int × Int × Int × Int × Int × Int × (Int → Int) × (Int → Int) × (Int → Int)) => [(aR, .inr (10, [.ref aG, .ref aP, .ref aH, .ref aY, .ref aT, .ref aS, .ref aF, .ref aX, .int (iI pr), .int (iI (tk - takF nd wk pr ld)), .int (iI tol), .int (iI (hou + 2))])), (aT, .inr (8, [.ref aTp, .ref aTt, .ref aTx, .ref aTy, .ref aE, .int (iI (ld + 1))])), (aE, .inr (2, [.int (iI (lastF ld kx + (ehx + (yt (sta * 12 + (ht sta - 1))) * toSide po))), .int (iI (lastF ld ky + (ehy + (yt (sta * 12 + (ht sta - 1))) * upward po))), .int (iI (ehx + (yt (sta * 12 + (ht sta - 1))) * toSide po)), .int (iI (ehy + (yt (sta * 12 + (ht sta - 1))) * upward po))])), (aP, .inr (5, [.ref aPx, .ref aPy, .int (iI pn)])), (aPx, .inl (gI g, 200, .inl (ar bx))), (aPy, .inl (gI g, 200, .inl (ar byy))), (aF, .inr (2, [.int (iI u.1), .int (iI u.2.1), .int (iI u.2.2.1), .int (iI u.2.2.2.1)])), (aS, .inr (6, [.ref aQ, .ref aSt, .ref aSx, .ref aSy, .int (iI u.2.2.2.2.2.2.2.2.1), .int (iI u.2.2.2.2.2.2.2.2.2.1)])), (aQ, .inr (2, [.int (iI u.2.2.2.2.1), .int (iI u.2.2.2.2.2.1), .int (iI u.2.2.2.2.2.2.1), .int (iI u.2.2.2.2.2.2.2.1)])), (aSt, .inl (gI g, 4, .inl (ar u.2.2.2.2.2.2.2.2.2.2.1))), (aSx, .inl (gI g, 4, .inl (ar u.2.2.2.2.2.2.2.2.2.2.2.1))), (aSy, .inl (gI g, 4, .inl (ar u.2.2.2.2.2.2.2.2.2.2.2.2))), (aY, .inr (9, [.ref aYh, .ref aYt, .ref aYc])), (aYh, .inl (gI g, 3, .inl (ar (up ht sta (ht sta - 1))))), (aYt, .inl (gI g, 36, .inl (ar yt))), (aG, .inr (3, [.ref aGn, .ref aGw, .ref aGs, .int (iI kn)])), (aGn, .inl (gI g, 200, .inl (ar nd))), (aGw, .inl (gI g, 200, .inl (ar wk))), (aTp, .inl (gI g, 200, .inl (ar (up tp ld po)))), (aYc, .inl (gI g, 36, .inl (ar yc))), (aGs, .inl (gI g, 200, .inl (ar (sinkF kn (sinkF kn (sinkF kn sk ld (mx 0 (gt0 kn nd ld - pr) * gt0 kn wk ld / 10)) (ld - 1) ((mx 0 (gt0 kn nd ld - pr) * gt0 kn wk ld / 10) / 2)) (ld + 1) ((mx 0 (gt0 kn nd ld - pr) * gt0 kn wk ld / 10) / 2))))), (aTt, .inl (gI g, 200, .inl (ar (up tt ld (yt (sta * 12 + (ht sta - 1))))))), (aTx, .inl (gI g, 200, .inl (ar (up kx ld (lastF ld kx + (ehx + (yt (sta * 12 + (ht sta - 1))) * toSide po)))))), (aTy, .inl (gI g, 200, .inl (ar (up ky ld (lastF ld ky + (ehy + (yt (sta * 12 + (ht sta - 1))) * upward po)))))), (aO, .inl (gl.1, 1, .inr (.inl lo)))]) (fun (u : Int × Int × Int × Int × Int × Int × Int × Int × Int × Int × (Int → Int) × (Int → Int) × (Int → Int)) => ([(aR, .inr (10, [.ref aG, .ref aP, .ref aH, .ref aY, .ref aT, .ref aS, .ref aF, .ref aX, .int (iI pr), .int (iI tk), .int (iI tol), .int (iI hou)])), (aT, .inr (8, [.ref aTp, .ref aTt, .ref aTx, .ref aTy, .ref aE, .int (iI ld)])), (aE, .inr (2, [.int (iI ex), .int (iI ey), .int (iI ehx), .int (iI ehy)])), (aP, .inr (5, [.ref aPx, .ref aPy, .int (iI pn)])), (aPx, .inl (gI g, 200, .inl (ar bx))), (aPy, .inl (gI g, 200, .inl (ar byy))), (aF, .inr (2, [.int (iI u.1), .int (iI u.2.1), .int (iI u.2.2.1), .int (iI u.2.2.2.1)])), (aS, .inr (6, [.ref aQ, .ref aSt, .ref aSx, .ref aSy, .int (iI u.2.2.2.2.2.2.2.2.1), .int (iI u.2.2.2.2.2.2.2.2.2.1)])), (aQ, .inr (2, [.int (iI u.2.2.2.2.1), .int (iI u.2.2.2.2.2.1), .int (iI u.2.2.2.2.2.2.1), .int (iI u.2.2.2.2.2.2.2.1)])), (aSt, .inl (gI g, 4, .inl (ar u.2.2.2.2.2.2.2.2.2.2.1))), (aSx, .inl (gI g, 4, .inl (ar u.2.2.2.2.2.2.2.2.2.2.2.1))), (aSy, .inl (gI g, 4, .inl (ar u.2.2.2.2.2.2.2.2.2.2.2.2))), (aY, .inr (9, [.ref aYh, .ref aYt, .ref aYc])), (aYh, .inl (gI g, 3, .inl (ar ht))), (aYt, .inl (gI g, 36, .inl (ar yt))), (aG, .inr (3, [.ref aGn, .ref aGw, .ref aGs, .int (iI kn)])), (aGn, .inl (gI g, 200, .inl (ar nd))), (aGw, .inl (gI g, 200, .inl (ar wk))), (aTp, .inl (gI g, 200, .inl (ar tp))), (aYc, .inl (gI g, 36, .inl (ar yc))), (aGs, .inl (gI g, 200, .inl (ar sk))), (aTt, .inl (gI g, 200, .inl (ar tt))), (aTx, .inl (gI g, 200, .inl (ar kx))), (aTy, .inl (gI g, 200, .inl (ar ky))), (aO, .inl (gl.1, 1, .inr (.inl lo)))] : va_W)) rfl rfl (by decide) (fun _ => rfl) (fun _ => rfl) rfl (fun E ce q9 u H locs hXP hPX hP hD hS hcell hv9 hcl => ?_) (fun u v_14 H locs hv_14 pv_14 hP hD hS => ?_)
    · skip
      obtain ⟨fx_o_15, fy_o_16, fhx_o_17, fhy_o_18, qx_o_19, qy_o_20, qhx_o_21, qhy_o_22, sr_o_23, sl_o_24, st_o_25, sx_o_26, sy_o_27⟩ := u
      have hXP : bnd st_o_25 0 9 ∧ bnd sx_o_26 (-5) 5 ∧ bnd sy_o_27 (-5) 5 := hXP
      have hP : va_P (gD g) vwCl [(aR, .inr (10, [.ref aG, .ref aP, .ref aH, .ref aY, .ref aT, .ref aS, .ref aF, .ref aX, .int (iI pr), .int (iI tk), .int (iI tol), .int (iI hou)])), (aT, .inr (8, [.ref aTp, .ref aTt, .ref aTx, .ref aTy, .ref aE, .int (iI ld)])), (aE, .inr (2, [.int (iI ex), .int (iI ey), .int (iI ehx), .int (iI ehy)])), (aP, .inr (5, [.ref aPx, .ref aPy, .int (iI pn)])), (aPx, .inl (gI g, 200, .inl (ar bx))), (aPy, .inl (gI g, 200, .inl (ar byy))), (aF, .inr (2, [.int (iI fx_o_15), .int (iI fy_o_16), .int (iI fhx_o_17), .int (iI fhy_o_18)])), (aS, .inr (6, [.ref aQ, .ref aSt, .ref aSx, .ref aSy, .int (iI sr_o_23), .int (iI sl_o_24)])), (aQ, .inr (2, [.int (iI qx_o_19), .int (iI qy_o_20), .int (iI qhx_o_21), .int (iI qhy_o_22)])), (aSt, .inl (gI g, 4, .inl (ar st_o_25))), (aSx, .inl (gI g, 4, .inl (ar sx_o_26))), (aSy, .inl (gI g, 4, .inl (ar sy_o_27))), (aY, .inr (9, [.ref aYh, .ref aYt, .ref aYc])), (aYh, .inl (gI g, 3, .inl (ar ht))), (aYt, .inl (gI g, 36, .inl (ar yt))), (aG, .inr (3, [.ref aGn, .ref aGw, .ref aGs, .int (iI kn)])), (aGn, .inl (gI g, 200, .inl (ar nd))), (aGw, .inl (gI g, 200, .inl (ar wk))), (aTp, .inl (gI g, 200, .inl (ar tp))), (aYc, .inl (gI g, 36, .inl (ar yc))), (aGs, .inl (gI g, 200, .inl (ar sk))), (aTt, .inl (gI g, 200, .inl (ar tt))), (aTx, .inl (gI g, 200, .inl (ar kx))), (aTy, .inl (gI g, 200, .inl (ar ky))), (aO, .inl (gl.1, 1, .inr (.inl lo)))] H := hP
      have hD : va_D A [(aR, .inr (10, [.ref aG, .ref aP, .ref aH, .ref aY, .ref aT, .ref aS, .ref aF, .ref aX, .int (iI pr), .int (iI tk), .int (iI tol), .int (iI hou)])), (aT, .inr (8, [.ref aTp, .ref aTt, .ref aTx, .ref aTy, .ref aE, .int (iI ld)])), (aE, .inr (2, [.int (iI ex), .int (iI ey), .int (iI ehx), .int (iI ehy)])), (aP, .inr (5, [.ref aPx, .ref aPy, .int (iI pn)])), (aPx, .inl (gI g, 200, .inl (ar bx))), (aPy, .inl (gI g, 200, .inl (ar byy))), (aF, .inr (2, [.int (iI fx_o_15), .int (iI fy_o_16), .int (iI fhx_o_17), .int (iI fhy_o_18)])), (aS, .inr (6, [.ref aQ, .ref aSt, .ref aSx, .ref aSy, .int (iI sr_o_23), .int (iI sl_o_24)])), (aQ, .inr (2, [.int (iI qx_o_19), .int (iI qy_o_20), .int (iI qhx_o_21), .int (iI qhy_o_22)])), (aSt, .inl (gI g, 4, .inl (ar st_o_25))), (aSx, .inl (gI g, 4, .inl (ar sx_o_26))), (aSy, .inl (gI g, 4, .inl (ar sy_o_27))), (aY, .inr (9, [.ref aYh, .ref aYt, .ref aYc])), (aYh, .inl (gI g, 3, .inl (ar ht))), (aYt, .inl (gI g, 36, .inl (ar yt))), (aG, .inr (3, [.ref aGn, .ref aGw, .ref aGs, .int (iI kn)])), (aGn, .inl (gI g, 200, .inl (ar nd))), (aGw, .inl (gI g, 200, .inl (ar wk))), (aTp, .inl (gI g, 200, .inl (ar tp))), (aYc, .inl (gI g, 36, .inl (ar yc))), (aGs, .inl (gI g, 200, .inl (ar sk))), (aTt, .inl (gI g, 200, .inl (ar tt))), (aTx, .inl (gI g, 200, .inl (ar kx))), (aTy, .inl (gI g, 200, .inl (ar ky))), (aO, .inl (gl.1, 1, .inr (.inl lo)))] := hD
      rcases hPX with ⟨hE, hp⟩ | ⟨hE, hp⟩ | ⟨hE, hp⟩ | ⟨hE, hp⟩
      · skip
        have hp : laT sta po (reaF kn ld (ht sta) (mx 0 (yc (sta * 12 + (ht sta - 1)) + 24 - hou)) (lastP ld tp) po tk (takF nd wk pr ld) (devF pn bx byy kx ky ld ehx ehy (yt (sta * 12 + (ht sta - 1))) po) tol) hou = 1 := hp
        subst hE
        refine vx_catch (E := "java/lang/IndexOutOfBoundsException") (name := "java/lang/IndexOutOfBoundsException") hown [] ⟨0, 10, 13, 24⟩ [⟨0, 10, 17, 13⟩, ⟨0, 10, 21, 77⟩, ⟨0, 10, 25, 15⟩] (by rw [htab]; rfl) (fun z hz => by cases hz) (by decide) (by decide) (hts (.classLink RL 24 "java/lang/IndexOutOfBoundsException") (List.mem_of_getElem? (i := 1) rfl)) (va_Nw.use rfl (hC.2.2.2.2.2.2.2.2.2.2.1 "java/lang/IndexOutOfBoundsException" (List.mem_of_getElem? (i := 2) rfl))) hcell hv9 hcl ?_
        refine lv_astore (lv' := [(4, .ref q9), (0, .ref aR), (1, .int (iI sta)), (2, .int (iI po)), (3, .ref aO)]) hx hb dL_lay_13 hl (by decide) rfl (fun ls hl => ?_)
        refine x_iconst hx hb dL_lay_15 ?_
        have q_28 : (if laT sta po (reaF kn ld (ht sta) (mx 0 (yc (sta * 12 + (ht sta - 1)) + 24 - hou)) (lastP ld tp) po tk (takF nd wk pr ld) (devF pn bx byy kx ky ld ehx ehy (yt (sta * 12 + (ht sta - 1))) po) tol) hou = 0 then (tk - takF nd wk pr ld) else tk) = tk := by
          first
          | (
             first | rfl | (rw [if_pos (by omega)]) | (rw [if_neg (by omega)]) | (rw [if_pos (by omega)]; subst_vars; rfl))
          | fail "q9"
        have q_29 : (if laT sta po (reaF kn ld (ht sta) (mx 0 (yc (sta * 12 + (ht sta - 1)) + 24 - hou)) (lastP ld tp) po tk (takF nd wk pr ld) (devF pn bx byy kx ky ld ehx ehy (yt (sta * 12 + (ht sta - 1))) po) tol) hou = 0 then (hou + 2) else hou) = hou := by
          first
          | (
             first | rfl | (rw [if_pos (by omega)]) | (rw [if_neg (by omega)]) | (rw [if_pos (by omega)]; subst_vars; rfl))
          | fail "q9"
        have q_30 : (if laT sta po (reaF kn ld (ht sta) (mx 0 (yc (sta * 12 + (ht sta - 1)) + 24 - hou)) (lastP ld tp) po tk (takF nd wk pr ld) (devF pn bx byy kx ky ld ehx ehy (yt (sta * 12 + (ht sta - 1))) po) tol) hou = 0 then (ld + 1) else ld) = ld := by
          first
          | (
             first | rfl | (rw [if_pos (by omega)]) | (rw [if_neg (by omega)]) | (rw [if_pos (by omega)]; subst_vars; rfl))
          | fail "q9"
        have q_31 : (if laT sta po (reaF kn ld (ht sta) (mx 0 (yc (sta * 12 + (ht sta - 1)) + 24 - hou)) (lastP ld tp) po tk (takF nd wk pr ld) (devF pn bx byy kx ky ld ehx ehy (yt (sta * 12 + (ht sta - 1))) po) tol) hou = 0 then (lastF ld kx + (ehx + (yt (sta * 12 + (ht sta - 1))) * toSide po)) else ex) = ex := by
          first
          | (
             first | rfl | (rw [if_pos (by omega)]) | (rw [if_neg (by omega)]) | (rw [if_pos (by omega)]; subst_vars; rfl))
          | fail "q9"
        have q_32 : (if laT sta po (reaF kn ld (ht sta) (mx 0 (yc (sta * 12 + (ht sta - 1)) + 24 - hou)) (lastP ld tp) po tk (takF nd wk pr ld) (devF pn bx byy kx ky ld ehx ehy (yt (sta * 12 + (ht sta - 1))) po) tol) hou = 0 then (lastF ld ky + (ehy + (yt (sta * 12 + (ht sta - 1))) * upward po)) else ey) = ey := by
          first
          | (
             first | rfl | (rw [if_pos (by omega)]) | (rw [if_neg (by omega)]) | (rw [if_pos (by omega)]; subst_vars; rfl))
          | fail "q9"
        have q_33 : (if laT sta po (reaF kn ld (ht sta) (mx 0 (yc (sta * 12 + (ht sta - 1)) + 24 - hou)) (lastP ld tp) po tk (takF nd wk pr ld) (devF pn bx byy kx ky ld ehx ehy (yt (sta * 12 + (ht sta - 1))) po) tol) hou = 0 then (ehx + (yt (sta * 12 + (ht sta - 1))) * toSide po) else ehx) = ehx := by
          first
          | (
             first | rfl | (rw [if_pos (by omega)]) | (rw [if_neg (by omega)]) | (rw [if_pos (by omega)]; subst_vars; rfl))
          | fail "q9"
        have q_34 : (if laT sta po (reaF kn ld (ht sta) (mx 0 (yc (sta * 12 + (ht sta - 1)) + 24 - hou)) (lastP ld tp) po tk (takF nd wk pr ld) (devF pn bx byy kx ky ld ehx ehy (yt (sta * 12 + (ht sta - 1))) po) tol) hou = 0 then (ehy + (yt (sta * 12 + (ht sta - 1))) * upward po) else ehy) = ehy := by
          first
          | (
             first | rfl | (rw [if_pos (by omega)]) | (rw [if_neg (by omega)]) | (rw [if_pos (by omega)]; subst_vars; rfl))
          | fail "q9"
        have q_35 : (if laT sta po (reaF kn ld (ht sta) (mx 0 (yc (sta * 12 + (ht sta - 1)) + 24 - hou)) (lastP ld tp) po tk (takF nd wk pr ld) (devF pn bx byy kx ky ld ehx ehy (yt (sta * 12 + (ht sta - 1))) po) tol) hou = 0 then (up ht sta (ht sta - 1)) else ht) = ht := by
          first
          | (
             first | rfl | (rw [if_pos (by omega)]) | (rw [if_neg (by omega)]) | (rw [if_pos (by omega)]; subst_vars; rfl))
          | fail "q9"
        have q_36 : (if laT sta po (reaF kn ld (ht sta) (mx 0 (yc (sta * 12 + (ht sta - 1)) + 24 - hou)) (lastP ld tp) po tk (takF nd wk pr ld) (devF pn bx byy kx ky ld ehx ehy (yt (sta * 12 + (ht sta - 1))) po) tol) hou = 0 then (up tp ld po) else tp) = tp := by
          first
          | (
             first | rfl | (rw [if_pos (by omega)]) | (rw [if_neg (by omega)]) | (rw [if_pos (by omega)]; subst_vars; rfl))
          | fail "q9"
        have q_37 : (if laT sta po (reaF kn ld (ht sta) (mx 0 (yc (sta * 12 + (ht sta - 1)) + 24 - hou)) (lastP ld tp) po tk (takF nd wk pr ld) (devF pn bx byy kx ky ld ehx ehy (yt (sta * 12 + (ht sta - 1))) po) tol) hou = 0 then (sinkF kn (sinkF kn (sinkF kn sk ld (mx 0 (gt0 kn nd ld - pr) * gt0 kn wk ld / 10)) (ld - 1) ((mx 0 (gt0 kn nd ld - pr) * gt0 kn wk ld / 10) / 2)) (ld + 1) ((mx 0 (gt0 kn nd ld - pr) * gt0 kn wk ld / 10) / 2)) else sk) = sk := by
          first
          | (
             first | rfl | (rw [if_pos (by omega)]) | (rw [if_neg (by omega)]) | (rw [if_pos (by omega)]; subst_vars; rfl))
          | fail "q9"
        have q_38 : (if laT sta po (reaF kn ld (ht sta) (mx 0 (yc (sta * 12 + (ht sta - 1)) + 24 - hou)) (lastP ld tp) po tk (takF nd wk pr ld) (devF pn bx byy kx ky ld ehx ehy (yt (sta * 12 + (ht sta - 1))) po) tol) hou = 0 then (up tt ld (yt (sta * 12 + (ht sta - 1)))) else tt) = tt := by
          first
          | (
             first | rfl | (rw [if_pos (by omega)]) | (rw [if_neg (by omega)]) | (rw [if_pos (by omega)]; subst_vars; rfl))
          | fail "q9"
        have q_39 : (if laT sta po (reaF kn ld (ht sta) (mx 0 (yc (sta * 12 + (ht sta - 1)) + 24 - hou)) (lastP ld tp) po tk (takF nd wk pr ld) (devF pn bx byy kx ky ld ehx ehy (yt (sta * 12 + (ht sta - 1))) po) tol) hou = 0 then (up kx ld (lastF ld kx + (ehx + (yt (sta * 12 + (ht sta - 1))) * toSide po))) else kx) = kx := by
          first
          | (
             first | rfl | (rw [if_pos (by omega)]) | (rw [if_neg (by omega)]) | (rw [if_pos (by omega)]; subst_vars; rfl))
          | fail "q9"
        have q_40 : (if laT sta po (reaF kn ld (ht sta) (mx 0 (yc (sta * 12 + (ht sta - 1)) + 24 - hou)) (lastP ld tp) po tk (takF nd wk pr ld) (devF pn bx byy kx ky ld ehx ehy (yt (sta * 12 + (ht sta - 1))) po) tol) hou = 0 then (up ky ld (lastF ld ky + (ehy + (yt (sta * 12 + (ht sta - 1))) * upward po))) else ky) = ky := by
          first
          | (
             first | rfl | (rw [if_pos (by omega)]) | (rw [if_neg (by omega)]) | (rw [if_pos (by omega)]; subst_vars; rfl))
          | fail "q9"
        have hw_41 := (congr (congr (congr (congr (congr (congr (congr (congr (congr (congr (congr (congr (congrArg (fun (z0 : Int) (z1 : Int) (z2 : Int) (z3 : Int) (z4 : Int) (z5 : Int) (z6 : Int) (z7 : Int → Int) (z8 : Int → Int) (z9 : Int → Int) (z10 : Int → Int) (z11 : Int → Int) (z12 : Int → Int) => ([(aR, .inr (10, [.ref aG, .ref aP, .ref aH, .ref aY, .ref aT, .ref aS, .ref aF, .ref aX, .int (iI pr), .int (iI z0), .int (iI tol), .int (iI z1)])), (aT, .inr (8, [.ref aTp, .ref aTt, .ref aTx, .ref aTy, .ref aE, .int (iI z2)])), (aE, .inr (2, [.int (iI z3), .int (iI z4), .int (iI z5), .int (iI z6)])), (aP, .inr (5, [.ref aPx, .ref aPy, .int (iI pn)])), (aPx, .inl (gI g, 200, .inl (ar bx))), (aPy, .inl (gI g, 200, .inl (ar byy))), (aF, .inr (2, [.int (iI fx_o_15), .int (iI fy_o_16), .int (iI fhx_o_17), .int (iI fhy_o_18)])), (aS, .inr (6, [.ref aQ, .ref aSt, .ref aSx, .ref aSy, .int (iI sr_o_23), .int (iI sl_o_24)])), (aQ, .inr (2, [.int (iI qx_o_19), .int (iI qy_o_20), .int (iI qhx_o_21), .int (iI qhy_o_22)])), (aSt, .inl (gI g, 4, .inl (ar st_o_25))), (aSx, .inl (gI g, 4, .inl (ar sx_o_26))), (aSy, .inl (gI g, 4, .inl (ar sy_o_27))), (aY, .inr (9, [.ref aYh, .ref aYt, .ref aYc])), (aYh, .inl (gI g, 3, .inl (ar z7))), (aYt, .inl (gI g, 36, .inl (ar yt))), (aG, .inr (3, [.ref aGn, .ref aGw, .ref aGs, .int (iI kn)])), (aGn, .inl (gI g, 200, .inl (ar nd))), (aGw, .inl (gI g, 200, .inl (ar wk))), (aTp, .inl (gI g, 200, .inl (ar z8))), (aYc, .inl (gI g, 36, .inl (ar yc))), (aGs, .inl (gI g, 200, .inl (ar z9))), (aTt, .inl (gI g, 200, .inl (ar z10))), (aTx, .inl (gI g, 200, .inl (ar z11))), (aTy, .inl (gI g, 200, .inl (ar z12))), (aO, .inl (gl.1, 1, .inr (.inl lo)))] : va_W)) q_28.symm) q_29.symm) q_30.symm) q_31.symm) q_32.symm) q_33.symm) q_34.symm) q_35.symm) q_36.symm) q_37.symm) q_38.symm) q_39.symm) q_40.symm)
        rw [hQ9]
        exact x_iret hx hb hr hlocks hP hD hS (S := Int × Int × Int × Int × Int × Int × Int × Int × Int × Int × (Int → Int) × (Int → Int) × (Int → Int) × (Nat → Int64)) rfl dL_lay_16 ⟨fx_o_15, fy_o_16, fhx_o_17, fhy_o_18, qx_o_19, qy_o_20, qhx_o_21, qhy_o_22, sr_o_23, sl_o_24, st_o_25, sx_o_26, sy_o_27, lo⟩ (by
            first
            | (
               first | omega | (subst_vars; omega))
            | fail "q9") (by
            first
            | (
               refine ⟨fun h0 => ?_, ?_⟩
               · first | (exfalso; omega) | ((try dsimp only); rw [zl_up]; subst_vars; rfl) | ((try dsimp only); rw [zl_up]; congr 1)
               · first | exact hjk | exact hjk.2 | exact hXP | exact ⟨hb_st, hb_sx, hb_sy⟩)
            | fail "q9") hw_41 (Nat.le_of_ble_eq_true rfl) (Nat.le_of_ble_eq_true rfl)
      · skip
        have hp : laT sta po (reaF kn ld (ht sta) (mx 0 (yc (sta * 12 + (ht sta - 1)) + 24 - hou)) (lastP ld tp) po tk (takF nd wk pr ld) (devF pn bx byy kx ky ld ehx ehy (yt (sta * 12 + (ht sta - 1))) po) tol) hou = 2 := hp
        subst hE
        refine vx_catch (E := "java/lang/IllegalArgumentException") (name := "java/lang/IllegalArgumentException") hown [⟨0, 10, 13, 24⟩] ⟨0, 10, 17, 13⟩ [⟨0, 10, 21, 77⟩, ⟨0, 10, 25, 15⟩] (by rw [htab]; rfl) (fun z hz => by rcases List.mem_cons.mp hz with rfl | hz; exact Or.inr ⟨by decide, "java/lang/IndexOutOfBoundsException", (hts (.classLink RL 24 "java/lang/IndexOutOfBoundsException") (List.mem_of_getElem? (i := 1) rfl)), hL.2 ("java/lang/IllegalArgumentException", "java/lang/IndexOutOfBoundsException") (List.mem_of_getElem? (i := 1) (by decide +kernel))⟩; cases hz) (by decide) (by decide) (hts (.classLink RL 13 "java/lang/IllegalArgumentException") (List.mem_of_getElem? (i := 2) rfl)) (va_Nw.use rfl (hC.2.2.2.2.2.2.2.2.2.2.1 "java/lang/IllegalArgumentException" (List.mem_of_getElem? (i := 0) rfl))) hcell hv9 hcl ?_
        refine lv_astore (lv' := [(4, .ref q9), (0, .ref aR), (1, .int (iI sta)), (2, .int (iI po)), (3, .ref aO)]) hx hb dL_lay_17 hl (by decide) rfl (fun ls hl => ?_)
        refine x_iconst hx hb dL_lay_19 ?_
        have q_42 : (if laT sta po (reaF kn ld (ht sta) (mx 0 (yc (sta * 12 + (ht sta - 1)) + 24 - hou)) (lastP ld tp) po tk (takF nd wk pr ld) (devF pn bx byy kx ky ld ehx ehy (yt (sta * 12 + (ht sta - 1))) po) tol) hou = 0 then (tk - takF nd wk pr ld) else tk) = tk := by
          first
          | (
             first | rfl | (rw [if_pos (by omega)]) | (rw [if_neg (by omega)]) | (rw [if_pos (by omega)]; subst_vars; rfl))
          | fail "q9"
        have q_43 : (if laT sta po (reaF kn ld (ht sta) (mx 0 (yc (sta * 12 + (ht sta - 1)) + 24 - hou)) (lastP ld tp) po tk (takF nd wk pr ld) (devF pn bx byy kx ky ld ehx ehy (yt (sta * 12 + (ht sta - 1))) po) tol) hou = 0 then (hou + 2) else hou) = hou := by
          first
          | (
             first | rfl | (rw [if_pos (by omega)]) | (rw [if_neg (by omega)]) | (rw [if_pos (by omega)]; subst_vars; rfl))
          | fail "q9"
        have q_44 : (if laT sta po (reaF kn ld (ht sta) (mx 0 (yc (sta * 12 + (ht sta - 1)) + 24 - hou)) (lastP ld tp) po tk (takF nd wk pr ld) (devF pn bx byy kx ky ld ehx ehy (yt (sta * 12 + (ht sta - 1))) po) tol) hou = 0 then (ld + 1) else ld) = ld := by
          first
          | (
             first | rfl | (rw [if_pos (by omega)]) | (rw [if_neg (by omega)]) | (rw [if_pos (by omega)]; subst_vars; rfl))
          | fail "q9"
        have q_45 : (if laT sta po (reaF kn ld (ht sta) (mx 0 (yc (sta * 12 + (ht sta - 1)) + 24 - hou)) (lastP ld tp) po tk (takF nd wk pr ld) (devF pn bx byy kx ky ld ehx ehy (yt (sta * 12 + (ht sta - 1))) po) tol) hou = 0 then (lastF ld kx + (ehx + (yt (sta * 12 + (ht sta - 1))) * toSide po)) else ex) = ex := by
          first
          | (
             first | rfl | (rw [if_pos (by omega)]) | (rw [if_neg (by omega)]) | (rw [if_pos (by omega)]; subst_vars; rfl))
          | fail "q9"
        have q_46 : (if laT sta po (reaF kn ld (ht sta) (mx 0 (yc (sta * 12 + (ht sta - 1)) + 24 - hou)) (lastP ld tp) po tk (takF nd wk pr ld) (devF pn bx byy kx ky ld ehx ehy (yt (sta * 12 + (ht sta - 1))) po) tol) hou = 0 then (lastF ld ky + (ehy + (yt (sta * 12 + (ht sta - 1))) * upward po)) else ey) = ey := by
          first
          | (
             first | rfl | (rw [if_pos (by omega)]) | (rw [if_neg (by omega)]) | (rw [if_pos (by omega)]; subst_vars; rfl))
          | fail "q9"
        have q_47 : (if laT sta po (reaF kn ld (ht sta) (mx 0 (yc (sta * 12 + (ht sta - 1)) + 24 - hou)) (lastP ld tp) po tk (takF nd wk pr ld) (devF pn bx byy kx ky ld ehx ehy (yt (sta * 12 + (ht sta - 1))) po) tol) hou = 0 then (ehx + (yt (sta * 12 + (ht sta - 1))) * toSide po) else ehx) = ehx := by
          first
          | (
             first | rfl | (rw [if_pos (by omega)]) | (rw [if_neg (by omega)]) | (rw [if_pos (by omega)]; subst_vars; rfl))
          | fail "q9"
        have q_48 : (if laT sta po (reaF kn ld (ht sta) (mx 0 (yc (sta * 12 + (ht sta - 1)) + 24 - hou)) (lastP ld tp) po tk (takF nd wk pr ld) (devF pn bx byy kx ky ld ehx ehy (yt (sta * 12 + (ht sta - 1))) po) tol) hou = 0 then (ehy + (yt (sta * 12 + (ht sta - 1))) * upward po) else ehy) = ehy := by
          first
          | (
             first | rfl | (rw [if_pos (by omega)]) | (rw [if_neg (by omega)]) | (rw [if_pos (by omega)]; subst_vars; rfl))
          | fail "q9"
        have q_49 : (if laT sta po (reaF kn ld (ht sta) (mx 0 (yc (sta * 12 + (ht sta - 1)) + 24 - hou)) (lastP ld tp) po tk (takF nd wk pr ld) (devF pn bx byy kx ky ld ehx ehy (yt (sta * 12 + (ht sta - 1))) po) tol) hou = 0 then (up ht sta (ht sta - 1)) else ht) = ht := by
          first
          | (
             first | rfl | (rw [if_pos (by omega)]) | (rw [if_neg (by omega)]) | (rw [if_pos (by omega)]; subst_vars; rfl))
          | fail "q9"
        have q_50 : (if laT sta po (reaF kn ld (ht sta) (mx 0 (yc (sta * 12 + (ht sta - 1)) + 24 - hou)) (lastP ld tp) po tk (takF nd wk pr ld) (devF pn bx byy kx ky ld ehx ehy (yt (sta * 12 + (ht sta - 1))) po) tol) hou = 0 then (up tp ld po) else tp) = tp := by
          first
          | (
             first | rfl | (rw [if_pos (by omega)]) | (rw [if_neg (by omega)]) | (rw [if_pos (by omega)]; subst_vars; rfl))
          | fail "q9"
        have q_51 : (if laT sta po (reaF kn ld (ht sta) (mx 0 (yc (sta * 12 + (ht sta - 1)) + 24 - hou)) (lastP ld tp) po tk (takF nd wk pr ld) (devF pn bx byy kx ky ld ehx ehy (yt (sta * 12 + (ht sta - 1))) po) tol) hou = 0 then (sinkF kn (sinkF kn (sinkF kn sk ld (mx 0 (gt0 kn nd ld - pr) * gt0 kn wk ld / 10)) (ld - 1) ((mx 0 (gt0 kn nd ld - pr) * gt0 kn wk ld / 10) / 2)) (ld + 1) ((mx 0 (gt0 kn nd ld - pr) * gt0 kn wk ld / 10) / 2)) else sk) = sk := by
          first
          | (
             first | rfl | (rw [if_pos (by omega)]) | (rw [if_neg (by omega)]) | (rw [if_pos (by omega)]; subst_vars; rfl))
          | fail "q9"
        have q_52 : (if laT sta po (reaF kn ld (ht sta) (mx 0 (yc (sta * 12 + (ht sta - 1)) + 24 - hou)) (lastP ld tp) po tk (takF nd wk pr ld) (devF pn bx byy kx ky ld ehx ehy (yt (sta * 12 + (ht sta - 1))) po) tol) hou = 0 then (up tt ld (yt (sta * 12 + (ht sta - 1)))) else tt) = tt := by
          first
          | (
             first | rfl | (rw [if_pos (by omega)]) | (rw [if_neg (by omega)]) | (rw [if_pos (by omega)]; subst_vars; rfl))
          | fail "q9"
        have q_53 : (if laT sta po (reaF kn ld (ht sta) (mx 0 (yc (sta * 12 + (ht sta - 1)) + 24 - hou)) (lastP ld tp) po tk (takF nd wk pr ld) (devF pn bx byy kx ky ld ehx ehy (yt (sta * 12 + (ht sta - 1))) po) tol) hou = 0 then (up kx ld (lastF ld kx + (ehx + (yt (sta * 12 + (ht sta - 1))) * toSide po))) else kx) = kx := by
          first
          | (
             first | rfl | (rw [if_pos (by omega)]) | (rw [if_neg (by omega)]) | (rw [if_pos (by omega)]; subst_vars; rfl))
          | fail "q9"
        have q_54 : (if laT sta po (reaF kn ld (ht sta) (mx 0 (yc (sta * 12 + (ht sta - 1)) + 24 - hou)) (lastP ld tp) po tk (takF nd wk pr ld) (devF pn bx byy kx ky ld ehx ehy (yt (sta * 12 + (ht sta - 1))) po) tol) hou = 0 then (up ky ld (lastF ld ky + (ehy + (yt (sta * 12 + (ht sta - 1))) * upward po))) else ky) = ky := by
          first
          | (
             first | rfl | (rw [if_pos (by omega)]) | (rw [if_neg (by omega)]) | (rw [if_pos (by omega)]; subst_vars; rfl))
          | fail "q9"
        have hw_55 := (congr (congr (congr (congr (congr (congr (congr (congr (congr (congr (congr (congr (congrArg (fun (z0 : Int) (z1 : Int) (z2 : Int) (z3 : Int) (z4 : Int) (z5 : Int) (z6 : Int) (z7 : Int → Int) (z8 : Int → Int) (z9 : Int → Int) (z10 : Int → Int) (z11 : Int → Int) (z12 : Int → Int) => ([(aR, .inr (10, [.ref aG, .ref aP, .ref aH, .ref aY, .ref aT, .ref aS, .ref aF, .ref aX, .int (iI pr), .int (iI z0), .int (iI tol), .int (iI z1)])), (aT, .inr (8, [.ref aTp, .ref aTt, .ref aTx, .ref aTy, .ref aE, .int (iI z2)])), (aE, .inr (2, [.int (iI z3), .int (iI z4), .int (iI z5), .int (iI z6)])), (aP, .inr (5, [.ref aPx, .ref aPy, .int (iI pn)])), (aPx, .inl (gI g, 200, .inl (ar bx))), (aPy, .inl (gI g, 200, .inl (ar byy))), (aF, .inr (2, [.int (iI fx_o_15), .int (iI fy_o_16), .int (iI fhx_o_17), .int (iI fhy_o_18)])), (aS, .inr (6, [.ref aQ, .ref aSt, .ref aSx, .ref aSy, .int (iI sr_o_23), .int (iI sl_o_24)])), (aQ, .inr (2, [.int (iI qx_o_19), .int (iI qy_o_20), .int (iI qhx_o_21), .int (iI qhy_o_22)])), (aSt, .inl (gI g, 4, .inl (ar st_o_25))), (aSx, .inl (gI g, 4, .inl (ar sx_o_26))), (aSy, .inl (gI g, 4, .inl (ar sy_o_27))), (aY, .inr (9, [.ref aYh, .ref aYt, .ref aYc])), (aYh, .inl (gI g, 3, .inl (ar z7))), (aYt, .inl (gI g, 36, .inl (ar yt))), (aG, .inr (3, [.ref aGn, .ref aGw, .ref aGs, .int (iI kn)])), (aGn, .inl (gI g, 200, .inl (ar nd))), (aGw, .inl (gI g, 200, .inl (ar wk))), (aTp, .inl (gI g, 200, .inl (ar z8))), (aYc, .inl (gI g, 36, .inl (ar yc))), (aGs, .inl (gI g, 200, .inl (ar z9))), (aTt, .inl (gI g, 200, .inl (ar z10))), (aTx, .inl (gI g, 200, .inl (ar z11))), (aTy, .inl (gI g, 200, .inl (ar z12))), (aO, .inl (gl.1, 1, .inr (.inl lo)))] : va_W)) q_42.symm) q_43.symm) q_44.symm) q_45.symm) q_46.symm) q_47.symm) q_48.symm) q_49.symm) q_50.symm) q_51.symm) q_52.symm) q_53.symm) q_54.symm)
        rw [hQ9]
        exact x_iret hx hb hr hlocks hP hD hS (S := Int × Int × Int × Int × Int × Int × Int × Int × Int × Int × (Int → Int) × (Int → Int) × (Int → Int) × (Nat → Int64)) rfl dL_lay_20 ⟨fx_o_15, fy_o_16, fhx_o_17, fhy_o_18, qx_o_19, qy_o_20, qhx_o_21, qhy_o_22, sr_o_23, sl_o_24, st_o_25, sx_o_26, sy_o_27, lo⟩ (by
            first
            | (
               first | omega | (subst_vars; omega))
            | fail "q9") (by
            first
            | (
               refine ⟨fun h0 => ?_, ?_⟩
               · first | (exfalso; omega) | ((try dsimp only); rw [zl_up]; subst_vars; rfl) | ((try dsimp only); rw [zl_up]; congr 1)
               · first | exact hjk | exact hjk.2 | exact hXP | exact ⟨hb_st, hb_sx, hb_sy⟩)
            | fail "q9") hw_55 (Nat.le_of_ble_eq_true rfl) (Nat.le_of_ble_eq_true rfl)
      · skip
        have hp : laT sta po (reaF kn ld (ht sta) (mx 0 (yc (sta * 12 + (ht sta - 1)) + 24 - hou)) (lastP ld tp) po tk (takF nd wk pr ld) (devF pn bx byy kx ky ld ehx ehy (yt (sta * 12 + (ht sta - 1))) po) tol) hou = 3 := hp
        subst hE
        refine vx_catch (E := "java/lang/UnsupportedOperationException") (name := "java/lang/UnsupportedOperationException") hown [⟨0, 10, 13, 24⟩, ⟨0, 10, 17, 13⟩] ⟨0, 10, 21, 77⟩ [⟨0, 10, 25, 15⟩] (by rw [htab]; rfl) (fun z hz => by rcases List.mem_cons.mp hz with rfl | hz; exact Or.inr ⟨by decide, "java/lang/IndexOutOfBoundsException", (hts (.classLink RL 24 "java/lang/IndexOutOfBoundsException") (List.mem_of_getElem? (i := 1) rfl)), hL.2 ("java/lang/UnsupportedOperationException", "java/lang/IndexOutOfBoundsException") (List.mem_of_getElem? (i := 27) (by decide +kernel))⟩; rcases List.mem_cons.mp hz with rfl | hz; exact Or.inr ⟨by decide, "java/lang/IllegalArgumentException", (hts (.classLink RL 13 "java/lang/IllegalArgumentException") (List.mem_of_getElem? (i := 2) rfl)), hL.2 ("java/lang/UnsupportedOperationException", "java/lang/IllegalArgumentException") (List.mem_of_getElem? (i := 25) (by decide +kernel))⟩; cases hz) (by decide) (by decide) (hts (.classLink RL 77 "java/lang/UnsupportedOperationException") (List.mem_of_getElem? (i := 3) rfl)) (va_Nw.use rfl (hC.2.2.2.2.2.2.2.2.2.2.1 "java/lang/UnsupportedOperationException" (List.mem_of_getElem? (i := 5) rfl))) hcell hv9 hcl ?_
        refine lv_astore (lv' := [(4, .ref q9), (0, .ref aR), (1, .int (iI sta)), (2, .int (iI po)), (3, .ref aO)]) hx hb dL_lay_21 hl (by decide) rfl (fun ls hl => ?_)
        refine x_iconst hx hb dL_lay_23 ?_
        have q_56 : (if laT sta po (reaF kn ld (ht sta) (mx 0 (yc (sta * 12 + (ht sta - 1)) + 24 - hou)) (lastP ld tp) po tk (takF nd wk pr ld) (devF pn bx byy kx ky ld ehx ehy (yt (sta * 12 + (ht sta - 1))) po) tol) hou = 0 then (tk - takF nd wk pr ld) else tk) = tk := by
          first
          | (
             first | rfl | (rw [if_pos (by omega)]) | (rw [if_neg (by omega)]) | (rw [if_pos (by omega)]; subst_vars; rfl))
          | fail "q9"
        have q_57 : (if laT sta po (reaF kn ld (ht sta) (mx 0 (yc (sta * 12 + (ht sta - 1)) + 24 - hou)) (lastP ld tp) po tk (takF nd wk pr ld) (devF pn bx byy kx ky ld ehx ehy (yt (sta * 12 + (ht sta - 1))) po) tol) hou = 0 then (hou + 2) else hou) = hou := by
          first
          | (
             first | rfl | (rw [if_pos (by omega)]) | (rw [if_neg (by omega)]) | (rw [if_pos (by omega)]; subst_vars; rfl))
          | fail "q9"
        have q_58 : (if laT sta po (reaF kn ld (ht sta) (mx 0 (yc (sta * 12 + (ht sta - 1)) + 24 - hou)) (lastP ld tp) po tk (takF nd wk pr ld) (devF pn bx byy kx ky ld ehx ehy (yt (sta * 12 + (ht sta - 1))) po) tol) hou = 0 then (ld + 1) else ld) = ld := by
          first
          | (
             first | rfl | (rw [if_pos (by omega)]) | (rw [if_neg (by omega)]) | (rw [if_pos (by omega)]; subst_vars; rfl))
          | fail "q9"
        have q_59 : (if laT sta po (reaF kn ld (ht sta) (mx 0 (yc (sta * 12 + (ht sta - 1)) + 24 - hou)) (lastP ld tp) po tk (takF nd wk pr ld) (devF pn bx byy kx ky ld ehx ehy (yt (sta * 12 + (ht sta - 1))) po) tol) hou = 0 then (lastF ld kx + (ehx + (yt (sta * 12 + (ht sta - 1))) * toSide po)) else ex) = ex := by
          first
          | (
             first | rfl | (rw [if_pos (by omega)]) | (rw [if_neg (by omega)]) | (rw [if_pos (by omega)]; subst_vars; rfl))
          | fail "q9"
        have q_60 : (if laT sta po (reaF kn ld (ht sta) (mx 0 (yc (sta * 12 + (ht sta - 1)) + 24 - hou)) (lastP ld tp) po tk (takF nd wk pr ld) (devF pn bx byy kx ky ld ehx ehy (yt (sta * 12 + (ht sta - 1))) po) tol) hou = 0 then (lastF ld ky + (ehy + (yt (sta * 12 + (ht sta - 1))) * upward po)) else ey) = ey := by
          first
          | (
             first | rfl | (rw [if_pos (by omega)]) | (rw [if_neg (by omega)]) | (rw [if_pos (by omega)]; subst_vars; rfl))
          | fail "q9"
        have q_61 : (if laT sta po (reaF kn ld (ht sta) (mx 0 (yc (sta * 12 + (ht sta - 1)) + 24 - hou)) (lastP ld tp) po tk (takF nd wk pr ld) (devF pn bx byy kx ky ld ehx ehy (yt (sta * 12 + (ht sta - 1))) po) tol) hou = 0 then (ehx + (yt (sta * 12 + (ht sta - 1))) * toSide po) else ehx) = ehx := by
          first
          | (
             first | rfl | (rw [if_pos (by omega)]) | (rw [if_neg (by omega)]) | (rw [if_pos (by omega)]; subst_vars; rfl))
          | fail "q9"
        have q_62 : (if laT sta po (reaF kn ld (ht sta) (mx 0 (yc (sta * 12 + (ht sta - 1)) + 24 - hou)) (lastP ld tp) po tk (takF nd wk pr ld) (devF pn bx byy kx ky ld ehx ehy (yt (sta * 12 + (ht sta - 1))) po) tol) hou = 0 then (ehy + (yt (sta * 12 + (ht sta - 1))) * upward po) else ehy) = ehy := by
          first
          | (
             first | rfl | (rw [if_pos (by omega)]) | (rw [if_neg (by omega)]) | (rw [if_pos (by omega)]; subst_vars; rfl))
          | fail "q9"
        have q_63 : (if laT sta po (reaF kn ld (ht sta) (mx 0 (yc (sta * 12 + (ht sta - 1)) + 24 - hou)) (lastP ld tp) po tk (takF nd wk pr ld) (devF pn bx byy kx ky ld ehx ehy (yt (sta * 12 + (ht sta - 1))) po) tol) hou = 0 then (up ht sta (ht sta - 1)) else ht) = ht := by
          first
          | (
             first | rfl | (rw [if_pos (by omega)]) | (rw [if_neg (by omega)]) | (rw [if_pos (by omega)]; subst_vars; rfl))
          | fail "q9"
        have q_64 : (if laT sta po (reaF kn ld (ht sta) (mx 0 (yc (sta * 12 + (ht sta - 1)) + 24 - hou)) (lastP ld tp) po tk (takF nd wk pr ld) (devF pn bx byy kx ky ld ehx ehy (yt (sta * 12 + (ht sta - 1))) po) tol) hou = 0 then (up tp ld po) else tp) = tp := by
          first
          | (
             first | rfl | (rw [if_pos (by omega)]) | (rw [if_neg (by omega)]) | (rw [if_pos (by omega)]; subst_vars; rfl))
          | fail "q9"
        have q_65 : (if laT sta po (reaF kn ld (ht sta) (mx 0 (yc (sta * 12 + (ht sta - 1)) + 24 - hou)) (lastP ld tp) po tk (takF nd wk pr ld) (devF pn bx byy kx ky ld ehx ehy (yt (sta * 12 + (ht sta - 1))) po) tol) hou = 0 then (sinkF kn (sinkF kn (sinkF kn sk ld (mx 0 (gt0 kn nd ld - pr) * gt0 kn wk ld / 10)) (ld - 1) ((mx 0 (gt0 kn nd ld - pr) * gt0 kn wk ld / 10) / 2)) (ld + 1) ((mx 0 (gt0 kn nd ld - pr) * gt0 kn wk ld / 10) / 2)) else sk) = sk := by
          first
          | (
             first | rfl | (rw [if_pos (by omega)]) | (rw [if_neg (by omega)]) | (rw [if_pos (by omega)]; subst_vars; rfl))
          | fail "q9"
        have q_66 : (if laT sta po (reaF kn ld (ht sta) (mx 0 (yc (sta * 12 + (ht sta - 1)) + 24 - hou)) (lastP ld tp) po tk (takF nd wk pr ld) (devF pn bx byy kx ky ld ehx ehy (yt (sta * 12 + (ht sta - 1))) po) tol) hou = 0 then (up tt ld (yt (sta * 12 + (ht sta - 1)))) else tt) = tt := by
          first
          | (
             first | rfl | (rw [if_pos (by omega)]) | (rw [if_neg (by omega)]) | (rw [if_pos (by omega)]; subst_vars; rfl))
          | fail "q9"
        have q_67 : (if laT sta po (reaF kn ld (ht sta) (mx 0 (yc (sta * 12 + (ht sta - 1)) + 24 - hou)) (lastP ld tp) po tk (takF nd wk pr ld) (devF pn bx byy kx ky ld ehx ehy (yt (sta * 12 + (ht sta - 1))) po) tol) hou = 0 then (up kx ld (lastF ld kx + (ehx + (yt (sta * 12 + (ht sta - 1))) * toSide po))) else kx) = kx := by
          first
          | (
             first | rfl | (rw [if_pos (by omega)]) | (rw [if_neg (by omega)]) | (rw [if_pos (by omega)]; subst_vars; rfl))
          | fail "q9"
        have q_68 : (if laT sta po (reaF kn ld (ht sta) (mx 0 (yc (sta * 12 + (ht sta - 1)) + 24 - hou)) (lastP ld tp) po tk (takF nd wk pr ld) (devF pn bx byy kx ky ld ehx ehy (yt (sta * 12 + (ht sta - 1))) po) tol) hou = 0 then (up ky ld (lastF ld ky + (ehy + (yt (sta * 12 + (ht sta - 1))) * upward po))) else ky) = ky := by
          first
          | (
             first | rfl | (rw [if_pos (by omega)]) | (rw [if_neg (by omega)]) | (rw [if_pos (by omega)]; subst_vars; rfl))
          | fail "q9"
        have hw_69 := (congr (congr (congr (congr (congr (congr (congr (congr (congr (congr (congr (congr (congrArg (fun (z0 : Int) (z1 : Int) (z2 : Int) (z3 : Int) (z4 : Int) (z5 : Int) (z6 : Int) (z7 : Int → Int) (z8 : Int → Int) (z9 : Int → Int) (z10 : Int → Int) (z11 : Int → Int) (z12 : Int → Int) => ([(aR, .inr (10, [.ref aG, .ref aP, .ref aH, .ref aY, .ref aT, .ref aS, .ref aF, .ref aX, .int (iI pr), .int (iI z0), .int (iI tol), .int (iI z1)])), (aT, .inr (8, [.ref aTp, .ref aTt, .ref aTx, .ref aTy, .ref aE, .int (iI z2)])), (aE, .inr (2, [.int (iI z3), .int (iI z4), .int (iI z5), .int (iI z6)])), (aP, .inr (5, [.ref aPx, .ref aPy, .int (iI pn)])), (aPx, .inl (gI g, 200, .inl (ar bx))), (aPy, .inl (gI g, 200, .inl (ar byy))), (aF, .inr (2, [.int (iI fx_o_15), .int (iI fy_o_16), .int (iI fhx_o_17), .int (iI fhy_o_18)])), (aS, .inr (6, [.ref aQ, .ref aSt, .ref aSx, .ref aSy, .int (iI sr_o_23), .int (iI sl_o_24)])), (aQ, .inr (2, [.int (iI qx_o_19), .int (iI qy_o_20), .int (iI qhx_o_21), .int (iI qhy_o_22)])), (aSt, .inl (gI g, 4, .inl (ar st_o_25))), (aSx, .inl (gI g, 4, .inl (ar sx_o_26))), (aSy, .inl (gI g, 4, .inl (ar sy_o_27))), (aY, .inr (9, [.ref aYh, .ref aYt, .ref aYc])), (aYh, .inl (gI g, 3, .inl (ar z7))), (aYt, .inl (gI g, 36, .inl (ar yt))), (aG, .inr (3, [.ref aGn, .ref aGw, .ref aGs, .int (iI kn)])), (aGn, .inl (gI g, 200, .inl (ar nd))), (aGw, .inl (gI g, 200, .inl (ar wk))), (aTp, .inl (gI g, 200, .inl (ar z8))), (aYc, .inl (gI g, 36, .inl (ar yc))), (aGs, .inl (gI g, 200, .inl (ar z9))), (aTt, .inl (gI g, 200, .inl (ar z10))), (aTx, .inl (gI g, 200, .inl (ar z11))), (aTy, .inl (gI g, 200, .inl (ar z12))), (aO, .inl (gl.1, 1, .inr (.inl lo)))] : va_W)) q_56.symm) q_57.symm) q_58.symm) q_59.symm) q_60.symm) q_61.symm) q_62.symm) q_63.symm) q_64.symm) q_65.symm) q_66.symm) q_67.symm) q_68.symm)
        rw [hQ9]
        exact x_iret hx hb hr hlocks hP hD hS (S := Int × Int × Int × Int × Int × Int × Int × Int × Int × Int × (Int → Int) × (Int → Int) × (Int → Int) × (Nat → Int64)) rfl dL_lay_24 ⟨fx_o_15, fy_o_16, fhx_o_17, fhy_o_18, qx_o_19, qy_o_20, qhx_o_21, qhy_o_22, sr_o_23, sl_o_24, st_o_25, sx_o_26, sy_o_27, lo⟩ (by
            first
            | (
               first | omega | (subst_vars; omega))
            | fail "q9") (by
            first
            | (
               refine ⟨fun h0 => ?_, ?_⟩
               · first | (exfalso; omega) | ((try dsimp only); rw [zl_up]; subst_vars; rfl) | ((try dsimp only); rw [zl_up]; congr 1)
               · first | exact hjk | exact hjk.2 | exact hXP | exact ⟨hb_st, hb_sx, hb_sy⟩)
            | fail "q9") hw_69 (Nat.le_of_ble_eq_true rfl) (Nat.le_of_ble_eq_true rfl)
      · skip
        have hp : laT sta po (reaF kn ld (ht sta) (mx 0 (yc (sta * 12 + (ht sta - 1)) + 24 - hou)) (lastP ld tp) po tk (takF nd wk pr ld) (devF pn bx byy kx ky ld ehx ehy (yt (sta * 12 + (ht sta - 1))) po) tol) hou = 4 := hp
        subst hE
        refine vx_catch (E := "java/lang/IllegalStateException") (name := "java/lang/IllegalStateException") hown [⟨0, 10, 13, 24⟩, ⟨0, 10, 17, 13⟩, ⟨0, 10, 21, 77⟩] ⟨0, 10, 25, 15⟩ [] (by rw [htab]; rfl) (fun z hz => by rcases List.mem_cons.mp hz with rfl | hz; exact Or.inr ⟨by decide, "java/lang/IndexOutOfBoundsException", (hts (.classLink RL 24 "java/lang/IndexOutOfBoundsException") (List.mem_of_getElem? (i := 1) rfl)), hL.2 ("java/lang/IllegalStateException", "java/lang/IndexOutOfBoundsException") (List.mem_of_getElem? (i := 6) (by decide +kernel))⟩; rcases List.mem_cons.mp hz with rfl | hz; exact Or.inr ⟨by decide, "java/lang/IllegalArgumentException", (hts (.classLink RL 13 "java/lang/IllegalArgumentException") (List.mem_of_getElem? (i := 2) rfl)), hL.2 ("java/lang/IllegalStateException", "java/lang/IllegalArgumentException") (List.mem_of_getElem? (i := 5) (by decide +kernel))⟩; rcases List.mem_cons.mp hz with rfl | hz; exact Or.inr ⟨by decide, "java/lang/UnsupportedOperationException", (hts (.classLink RL 77 "java/lang/UnsupportedOperationException") (List.mem_of_getElem? (i := 3) rfl)), hL.2 ("java/lang/IllegalStateException", "java/lang/UnsupportedOperationException") (List.mem_of_getElem? (i := 9) (by decide +kernel))⟩; cases hz) (by decide) (by decide) (hts (.classLink RL 15 "java/lang/IllegalStateException") (List.mem_of_getElem? (i := 4) rfl)) (va_Nw.use rfl (hC.2.2.2.2.2.2.2.2.2.2.1 "java/lang/IllegalStateException" (List.mem_of_getElem? (i := 1) rfl))) hcell hv9 hcl ?_
        refine lv_astore (lv' := [(4, .ref q9), (0, .ref aR), (1, .int (iI sta)), (2, .int (iI po)), (3, .ref aO)]) hx hb dL_lay_25 hl (by decide) rfl (fun ls hl => ?_)
        refine x_iconst hx hb dL_lay_27 ?_
        have q_70 : (if laT sta po (reaF kn ld (ht sta) (mx 0 (yc (sta * 12 + (ht sta - 1)) + 24 - hou)) (lastP ld tp) po tk (takF nd wk pr ld) (devF pn bx byy kx ky ld ehx ehy (yt (sta * 12 + (ht sta - 1))) po) tol) hou = 0 then (tk - takF nd wk pr ld) else tk) = tk := by
          first
          | (
             first | rfl | (rw [if_pos (by omega)]) | (rw [if_neg (by omega)]) | (rw [if_pos (by omega)]; subst_vars; rfl))
          | fail "q9"
        have q_71 : (if laT sta po (reaF kn ld (ht sta) (mx 0 (yc (sta * 12 + (ht sta - 1)) + 24 - hou)) (lastP ld tp) po tk (takF nd wk pr ld) (devF pn bx byy kx ky ld ehx ehy (yt (sta * 12 + (ht sta - 1))) po) tol) hou = 0 then (hou + 2) else hou) = hou := by
          first
          | (
             first | rfl | (rw [if_pos (by omega)]) | (rw [if_neg (by omega)]) | (rw [if_pos (by omega)]; subst_vars; rfl))
          | fail "q9"
        have q_72 : (if laT sta po (reaF kn ld (ht sta) (mx 0 (yc (sta * 12 + (ht sta - 1)) + 24 - hou)) (lastP ld tp) po tk (takF nd wk pr ld) (devF pn bx byy kx ky ld ehx ehy (yt (sta * 12 + (ht sta - 1))) po) tol) hou = 0 then (ld + 1) else ld) = ld := by
          first
          | (
             first | rfl | (rw [if_pos (by omega)]) | (rw [if_neg (by omega)]) | (rw [if_pos (by omega)]; subst_vars; rfl))
          | fail "q9"
        have q_73 : (if laT sta po (reaF kn ld (ht sta) (mx 0 (yc (sta * 12 + (ht sta - 1)) + 24 - hou)) (lastP ld tp) po tk (takF nd wk pr ld) (devF pn bx byy kx ky ld ehx ehy (yt (sta * 12 + (ht sta - 1))) po) tol) hou = 0 then (lastF ld kx + (ehx + (yt (sta * 12 + (ht sta - 1))) * toSide po)) else ex) = ex := by
          first
          | (
             first | rfl | (rw [if_pos (by omega)]) | (rw [if_neg (by omega)]) | (rw [if_pos (by omega)]; subst_vars; rfl))
          | fail "q9"
        have q_74 : (if laT sta po (reaF kn ld (ht sta) (mx 0 (yc (sta * 12 + (ht sta - 1)) + 24 - hou)) (lastP ld tp) po tk (takF nd wk pr ld) (devF pn bx byy kx ky ld ehx ehy (yt (sta * 12 + (ht sta - 1))) po) tol) hou = 0 then (lastF ld ky + (ehy + (yt (sta * 12 + (ht sta - 1))) * upward po)) else ey) = ey := by
          first
          | (
             first | rfl | (rw [if_pos (by omega)]) | (rw [if_neg (by omega)]) | (rw [if_pos (by omega)]; subst_vars; rfl))
          | fail "q9"
        have q_75 : (if laT sta po (reaF kn ld (ht sta) (mx 0 (yc (sta * 12 + (ht sta - 1)) + 24 - hou)) (lastP ld tp) po tk (takF nd wk pr ld) (devF pn bx byy kx ky ld ehx ehy (yt (sta * 12 + (ht sta - 1))) po) tol) hou = 0 then (ehx + (yt (sta * 12 + (ht sta - 1))) * toSide po) else ehx) = ehx := by
          first
          | (
             first | rfl | (rw [if_pos (by omega)]) | (rw [if_neg (by omega)]) | (rw [if_pos (by omega)]; subst_vars; rfl))
          | fail "q9"
        have q_76 : (if laT sta po (reaF kn ld (ht sta) (mx 0 (yc (sta * 12 + (ht sta - 1)) + 24 - hou)) (lastP ld tp) po tk (takF nd wk pr ld) (devF pn bx byy kx ky ld ehx ehy (yt (sta * 12 + (ht sta - 1))) po) tol) hou = 0 then (ehy + (yt (sta * 12 + (ht sta - 1))) * upward po) else ehy) = ehy := by
          first
          | (
             first | rfl | (rw [if_pos (by omega)]) | (rw [if_neg (by omega)]) | (rw [if_pos (by omega)]; subst_vars; rfl))
          | fail "q9"
        have q_77 : (if laT sta po (reaF kn ld (ht sta) (mx 0 (yc (sta * 12 + (ht sta - 1)) + 24 - hou)) (lastP ld tp) po tk (takF nd wk pr ld) (devF pn bx byy kx ky ld ehx ehy (yt (sta * 12 + (ht sta - 1))) po) tol) hou = 0 then (up ht sta (ht sta - 1)) else ht) = ht := by
          first
          | (
             first | rfl | (rw [if_pos (by omega)]) | (rw [if_neg (by omega)]) | (rw [if_pos (by omega)]; subst_vars; rfl))
          | fail "q9"
        have q_78 : (if laT sta po (reaF kn ld (ht sta) (mx 0 (yc (sta * 12 + (ht sta - 1)) + 24 - hou)) (lastP ld tp) po tk (takF nd wk pr ld) (devF pn bx byy kx ky ld ehx ehy (yt (sta * 12 + (ht sta - 1))) po) tol) hou = 0 then (up tp ld po) else tp) = tp := by
          first
          | (
             first | rfl | (rw [if_pos (by omega)]) | (rw [if_neg (by omega)]) | (rw [if_pos (by omega)]; subst_vars; rfl))
          | fail "q9"
        have q_79 : (if laT sta po (reaF kn ld (ht sta) (mx 0 (yc (sta * 12 + (ht sta - 1)) + 24 - hou)) (lastP ld tp) po tk (takF nd wk pr ld) (devF pn bx byy kx ky ld ehx ehy (yt (sta * 12 + (ht sta - 1))) po) tol) hou = 0 then (sinkF kn (sinkF kn (sinkF kn sk ld (mx 0 (gt0 kn nd ld - pr) * gt0 kn wk ld / 10)) (ld - 1) ((mx 0 (gt0 kn nd ld - pr) * gt0 kn wk ld / 10) / 2)) (ld + 1) ((mx 0 (gt0 kn nd ld - pr) * gt0 kn wk ld / 10) / 2)) else sk) = sk := by
          first
          | (
             first | rfl | (rw [if_pos (by omega)]) | (rw [if_neg (by omega)]) | (rw [if_pos (by omega)]; subst_vars; rfl))
          | fail "q9"
        have q_80 : (if laT sta po (reaF kn ld (ht sta) (mx 0 (yc (sta * 12 + (ht sta - 1)) + 24 - hou)) (lastP ld tp) po tk (takF nd wk pr ld) (devF pn bx byy kx ky ld ehx ehy (yt (sta * 12 + (ht sta - 1))) po) tol) hou = 0 then (up tt ld (yt (sta * 12 + (ht sta - 1)))) else tt) = tt := by
          first
          | (
             first | rfl | (rw [if_pos (by omega)]) | (rw [if_neg (by omega)]) | (rw [if_pos (by omega)]; subst_vars; rfl))
          | fail "q9"
        have q_81 : (if laT sta po (reaF kn ld (ht sta) (mx 0 (yc (sta * 12 + (ht sta - 1)) + 24 - hou)) (lastP ld tp) po tk (takF nd wk pr ld) (devF pn bx byy kx ky ld ehx ehy (yt (sta * 12 + (ht sta - 1))) po) tol) hou = 0 then (up kx ld (lastF ld kx + (ehx + (yt (sta * 12 + (ht sta - 1))) * toSide po))) else kx) = kx := by
          first
          | (
             first | rfl | (rw [if_pos (by omega)]) | (rw [if_neg (by omega)]) | (rw [if_pos (by omega)]; subst_vars; rfl))
          | fail "q9"
        have q_82 : (if laT sta po (reaF kn ld (ht sta) (mx 0 (yc (sta * 12 + (ht sta - 1)) + 24 - hou)) (lastP ld tp) po tk (takF nd wk pr ld) (devF pn bx byy kx ky ld ehx ehy (yt (sta * 12 + (ht sta - 1))) po) tol) hou = 0 then (up ky ld (lastF ld ky + (ehy + (yt (sta * 12 + (ht sta - 1))) * upward po))) else ky) = ky := by
          first
          | (
             first | rfl | (rw [if_pos (by omega)]) | (rw [if_neg (by omega)]) | (rw [if_pos (by omega)]; subst_vars; rfl))
          | fail "q9"
        have hw_83 := (congr (congr (congr (congr (congr (congr (congr (congr (congr (congr (congr (congr (congrArg (fun (z0 : Int) (z1 : Int) (z2 : Int) (z3 : Int) (z4 : Int) (z5 : Int) (z6 : Int) (z7 : Int → Int) (z8 : Int → Int) (z9 : Int → Int) (z10 : Int → Int) (z11 : Int → Int) (z12 : Int → Int) => ([(aR, .inr (10, [.ref aG, .ref aP, .ref aH, .ref aY, .ref aT, .ref aS, .ref aF, .ref aX, .int (iI pr), .int (iI z0), .int (iI tol), .int (iI z1)])), (aT, .inr (8, [.ref aTp, .ref aTt, .ref aTx, .ref aTy, .ref aE, .int (iI z2)])), (aE, .inr (2, [.int (iI z3), .int (iI z4), .int (iI z5), .int (iI z6)])), (aP, .inr (5, [.ref aPx, .ref aPy, .int (iI pn)])), (aPx, .inl (gI g, 200, .inl (ar bx))), (aPy, .inl (gI g, 200, .inl (ar byy))), (aF, .inr (2, [.int (iI fx_o_15), .int (iI fy_o_16), .int (iI fhx_o_17), .int (iI fhy_o_18)])), (aS, .inr (6, [.ref aQ, .ref aSt, .ref aSx, .ref aSy, .int (iI sr_o_23), .int (iI sl_o_24)])), (aQ, .inr (2, [.int (iI qx_o_19), .int (iI qy_o_20), .int (iI qhx_o_21), .int (iI qhy_o_22)])), (aSt, .inl (gI g, 4, .inl (ar st_o_25))), (aSx, .inl (gI g, 4, .inl (ar sx_o_26))), (aSy, .inl (gI g, 4, .inl (ar sy_o_27))), (aY, .inr (9, [.ref aYh, .ref aYt, .ref aYc])), (aYh, .inl (gI g, 3, .inl (ar z7))), (aYt, .inl (gI g, 36, .inl (ar yt))), (aG, .inr (3, [.ref aGn, .ref aGw, .ref aGs, .int (iI kn)])), (aGn, .inl (gI g, 200, .inl (ar nd))), (aGw, .inl (gI g, 200, .inl (ar wk))), (aTp, .inl (gI g, 200, .inl (ar z8))), (aYc, .inl (gI g, 36, .inl (ar yc))), (aGs, .inl (gI g, 200, .inl (ar z9))), (aTt, .inl (gI g, 200, .inl (ar z10))), (aTx, .inl (gI g, 200, .inl (ar z11))), (aTy, .inl (gI g, 200, .inl (ar z12))), (aO, .inl (gl.1, 1, .inr (.inl lo)))] : va_W)) q_70.symm) q_71.symm) q_72.symm) q_73.symm) q_74.symm) q_75.symm) q_76.symm) q_77.symm) q_78.symm) q_79.symm) q_80.symm) q_81.symm) q_82.symm)
        rw [hQ9]
        exact x_iret hx hb hr hlocks hP hD hS (S := Int × Int × Int × Int × Int × Int × Int × Int × Int × Int × (Int → Int) × (Int → Int) × (Int → Int) × (Nat → Int64)) rfl dL_lay_28 ⟨fx_o_15, fy_o_16, fhx_o_17, fhy_o_18, qx_o_19, qy_o_20, qhx_o_21, qhy_o_22, sr_o_23, sl_o_24, st_o_25, sx_o_26, sy_o_27, lo⟩ (by
            first
            | (
               first | omega | (subst_vars; omega))
            | fail "q9") (by
            first
            | (
               refine ⟨fun h0 => ?_, ?_⟩
               · first | (exfalso; omega) | ((try dsimp only); rw [zl_up]; subst_vars; rfl) | ((try dsimp only); rw [zl_up]; congr 1)
               · first | exact hjk | exact hjk.2 | exact hXP | exact ⟨hb_st, hb_sx, hb_sy⟩)
            | fail "q9") hw_83 (Nat.le_of_ble_eq_true rfl) (Nat.le_of_ble_eq_true rfl)
    · skip
      obtain ⟨fx_o_1, fy_o_2, fhx_o_3, fhy_o_4, qx_o_5, qy_o_6, qhx_o_7, qhy_o_8, sr_o_9, sl_o_10, st_o_11, sx_o_12, sy_o_13⟩ := u
      have hP : va_P (gD g) vwCl [(aR, .inr (10, [.ref aG, .ref aP, .ref aH, .ref aY, .ref aT, .ref aS, .ref aF, .ref aX, .int (iI pr), .int (iI (tk - takF nd wk pr ld)), .int (iI tol), .int (iI (hou + 2))])), (aT, .inr (8, [.ref aTp, .ref aTt, .ref aTx, .ref aTy, .ref aE, .int (iI (ld + 1))])), (aE, .inr (2, [.int (iI (lastF ld kx + (ehx + (yt (sta * 12 + (ht sta - 1))) * toSide po))), .int (iI (lastF ld ky + (ehy + (yt (sta * 12 + (ht sta - 1))) * upward po))), .int (iI (ehx + (yt (sta * 12 + (ht sta - 1))) * toSide po)), .int (iI (ehy + (yt (sta * 12 + (ht sta - 1))) * upward po))])), (aP, .inr (5, [.ref aPx, .ref aPy, .int (iI pn)])), (aPx, .inl (gI g, 200, .inl (ar bx))), (aPy, .inl (gI g, 200, .inl (ar byy))), (aF, .inr (2, [.int (iI fx_o_1), .int (iI fy_o_2), .int (iI fhx_o_3), .int (iI fhy_o_4)])), (aS, .inr (6, [.ref aQ, .ref aSt, .ref aSx, .ref aSy, .int (iI sr_o_9), .int (iI sl_o_10)])), (aQ, .inr (2, [.int (iI qx_o_5), .int (iI qy_o_6), .int (iI qhx_o_7), .int (iI qhy_o_8)])), (aSt, .inl (gI g, 4, .inl (ar st_o_11))), (aSx, .inl (gI g, 4, .inl (ar sx_o_12))), (aSy, .inl (gI g, 4, .inl (ar sy_o_13))), (aY, .inr (9, [.ref aYh, .ref aYt, .ref aYc])), (aYh, .inl (gI g, 3, .inl (ar (up ht sta (ht sta - 1))))), (aYt, .inl (gI g, 36, .inl (ar yt))), (aG, .inr (3, [.ref aGn, .ref aGw, .ref aGs, .int (iI kn)])), (aGn, .inl (gI g, 200, .inl (ar nd))), (aGw, .inl (gI g, 200, .inl (ar wk))), (aTp, .inl (gI g, 200, .inl (ar (up tp ld po)))), (aYc, .inl (gI g, 36, .inl (ar yc))), (aGs, .inl (gI g, 200, .inl (ar (sinkF kn (sinkF kn (sinkF kn sk ld (mx 0 (gt0 kn nd ld - pr) * gt0 kn wk ld / 10)) (ld - 1) ((mx 0 (gt0 kn nd ld - pr) * gt0 kn wk ld / 10) / 2)) (ld + 1) ((mx 0 (gt0 kn nd ld - pr) * gt0 kn wk ld / 10) / 2))))), (aTt, .inl (gI g, 200, .inl (ar (up tt ld (yt (sta * 12 + (ht sta - 1))))))), (aTx, .inl (gI g, 200, .inl (ar (up kx ld (lastF ld kx + (ehx + (yt (sta * 12 + (ht sta - 1))) * toSide po)))))), (aTy, .inl (gI g, 200, .inl (ar (up ky ld (lastF ld ky + (ehy + (yt (sta * 12 + (ht sta - 1))) * upward po)))))), (aO, .inl (gl.1, 1, .inr (.inl lo)))] H := hP
      have hD : va_D A [(aR, .inr (10, [.ref aG, .ref aP, .ref aH, .ref aY, .ref aT, .ref aS, .ref aF, .ref aX, .int (iI pr), .int (iI (tk - takF nd wk pr ld)), .int (iI tol), .int (iI (hou + 2))])), (aT, .inr (8, [.ref aTp, .ref aTt, .ref aTx, .ref aTy, .ref aE, .int (iI (ld + 1))])), (aE, .inr (2, [.int (iI (lastF ld kx + (ehx + (yt (sta * 12 + (ht sta - 1))) * toSide po))), .int (iI (lastF ld ky + (ehy + (yt (sta * 12 + (ht sta - 1))) * upward po))), .int (iI (ehx + (yt (sta * 12 + (ht sta - 1))) * toSide po)), .int (iI (ehy + (yt (sta * 12 + (ht sta - 1))) * upward po))])), (aP, .inr (5, [.ref aPx, .ref aPy, .int (iI pn)])), (aPx, .inl (gI g, 200, .inl (ar bx))), (aPy, .inl (gI g, 200, .inl (ar byy))), (aF, .inr (2, [.int (iI fx_o_1), .int (iI fy_o_2), .int (iI fhx_o_3), .int (iI fhy_o_4)])), (aS, .inr (6, [.ref aQ, .ref aSt, .ref aSx, .ref aSy, .int (iI sr_o_9), .int (iI sl_o_10)])), (aQ, .inr (2, [.int (iI qx_o_5), .int (iI qy_o_6), .int (iI qhx_o_7), .int (iI qhy_o_8)])), (aSt, .inl (gI g, 4, .inl (ar st_o_11))), (aSx, .inl (gI g, 4, .inl (ar sx_o_12))), (aSy, .inl (gI g, 4, .inl (ar sy_o_13))), (aY, .inr (9, [.ref aYh, .ref aYt, .ref aYc])), (aYh, .inl (gI g, 3, .inl (ar (up ht sta (ht sta - 1))))), (aYt, .inl (gI g, 36, .inl (ar yt))), (aG, .inr (3, [.ref aGn, .ref aGw, .ref aGs, .int (iI kn)])), (aGn, .inl (gI g, 200, .inl (ar nd))), (aGw, .inl (gI g, 200, .inl (ar wk))), (aTp, .inl (gI g, 200, .inl (ar (up tp ld po)))), (aYc, .inl (gI g, 36, .inl (ar yc))), (aGs, .inl (gI g, 200, .inl (ar (sinkF kn (sinkF kn (sinkF kn sk ld (mx 0 (gt0 kn nd ld - pr) * gt0 kn wk ld / 10)) (ld - 1) ((mx 0 (gt0 kn nd ld - pr) * gt0 kn wk ld / 10) / 2)) (ld + 1) ((mx 0 (gt0 kn nd ld - pr) * gt0 kn wk ld / 10) / 2))))), (aTt, .inl (gI g, 200, .inl (ar (up tt ld (yt (sta * 12 + (ht sta - 1))))))), (aTx, .inl (gI g, 200, .inl (ar (up kx ld (lastF ld kx + (ehx + (yt (sta * 12 + (ht sta - 1))) * toSide po)))))), (aTy, .inl (gI g, 200, .inl (ar (up ky ld (lastF ld ky + (ehy + (yt (sta * 12 + (ht sta - 1))) * upward po)))))), (aO, .inl (gl.1, 1, .inr (.inl lo)))] := hD
      have hv_14 : v_14 = ld := hv_14
      obtain ⟨tv_14, pv_14⟩ := pv_14
      have tv_14 : laT sta po (reaF kn ld (ht sta) (mx 0 (yc (sta * 12 + (ht sta - 1)) + 24 - hou)) (lastP ld tp) po tk (takF nd wk pr ld) (devF pn bx byy kx ky ld ehx ehy (yt (sta * 12 + (ht sta - 1))) po) tol) hou = 0 := tv_14
      have pv_14 : bnd st_o_11 0 9 ∧ bnd sx_o_12 (-5) 5 ∧ bnd sy_o_13 (-5) 5 := by first | exact pv_14 | (rw [hv_14]; exact pv_14)
      have hjk := pv_14
      refine x_i2z hx hb dL_lay_8 ?_
      refine va_last hx hb hL.1 hP hD hS 24 0 rfl rfl zl_in dL_lay_9 (fun H locs hP hD hS => ?_)
      have hP : va_P (gD g) vwCl [(aR, .inr (10, [.ref aG, .ref aP, .ref aH, .ref aY, .ref aT, .ref aS, .ref aF, .ref aX, .int (iI pr), .int (iI (tk - takF nd wk pr ld)), .int (iI tol), .int (iI (hou + 2))])), (aT, .inr (8, [.ref aTp, .ref aTt, .ref aTx, .ref aTy, .ref aE, .int (iI (ld + 1))])), (aE, .inr (2, [.int (iI (lastF ld kx + (ehx + (yt (sta * 12 + (ht sta - 1))) * toSide po))), .int (iI (lastF ld ky + (ehy + (yt (sta * 12 + (ht sta - 1))) * upward po))), .int (iI (ehx + (yt (sta * 12 + (ht sta - 1))) * toSide po)), .int (iI (ehy + (yt (sta * 12 + (ht sta - 1))) * upward po))])), (aP, .inr (5, [.ref aPx, .ref aPy, .int (iI pn)])), (aPx, .inl (gI g, 200, .inl (ar bx))), (aPy, .inl (gI g, 200, .inl (ar byy))), (aF, .inr (2, [.int (iI fx_o_1), .int (iI fy_o_2), .int (iI fhx_o_3), .int (iI fhy_o_4)])), (aS, .inr (6, [.ref aQ, .ref aSt, .ref aSx, .ref aSy, .int (iI sr_o_9), .int (iI sl_o_10)])), (aQ, .inr (2, [.int (iI qx_o_5), .int (iI qy_o_6), .int (iI qhx_o_7), .int (iI qhy_o_8)])), (aSt, .inl (gI g, 4, .inl (ar st_o_11))), (aSx, .inl (gI g, 4, .inl (ar sx_o_12))), (aSy, .inl (gI g, 4, .inl (ar sy_o_13))), (aY, .inr (9, [.ref aYh, .ref aYt, .ref aYc])), (aYh, .inl (gI g, 3, .inl (ar (up ht sta (ht sta - 1))))), (aYt, .inl (gI g, 36, .inl (ar yt))), (aG, .inr (3, [.ref aGn, .ref aGw, .ref aGs, .int (iI kn)])), (aGn, .inl (gI g, 200, .inl (ar nd))), (aGw, .inl (gI g, 200, .inl (ar wk))), (aTp, .inl (gI g, 200, .inl (ar (up tp ld po)))), (aYc, .inl (gI g, 36, .inl (ar yc))), (aGs, .inl (gI g, 200, .inl (ar (sinkF kn (sinkF kn (sinkF kn sk ld (mx 0 (gt0 kn nd ld - pr) * gt0 kn wk ld / 10)) (ld - 1) ((mx 0 (gt0 kn nd ld - pr) * gt0 kn wk ld / 10) / 2)) (ld + 1) ((mx 0 (gt0 kn nd ld - pr) * gt0 kn wk ld / 10) / 2))))), (aTt, .inl (gI g, 200, .inl (ar (up tt ld (yt (sta * 12 + (ht sta - 1))))))), (aTx, .inl (gI g, 200, .inl (ar (up kx ld (lastF ld kx + (ehx + (yt (sta * 12 + (ht sta - 1))) * toSide po)))))), (aTy, .inl (gI g, 200, .inl (ar (up ky ld (lastF ld ky + (ehy + (yt (sta * 12 + (ht sta - 1))) * upward po)))))), (aO, .inl (gl.1, 1, .inr (.inl (vp_updL lo (iI 0).toNatClampNeg (zL v_14)))))] H := hP
      have hD : va_D A [(aR, .inr (10, [.ref aG, .ref aP, .ref aH, .ref aY, .ref aT, .ref aS, .ref aF, .ref aX, .int (iI pr), .int (iI (tk - takF nd wk pr ld)), .int (iI tol), .int (iI (hou + 2))])), (aT, .inr (8, [.ref aTp, .ref aTt, .ref aTx, .ref aTy, .ref aE, .int (iI (ld + 1))])), (aE, .inr (2, [.int (iI (lastF ld kx + (ehx + (yt (sta * 12 + (ht sta - 1))) * toSide po))), .int (iI (lastF ld ky + (ehy + (yt (sta * 12 + (ht sta - 1))) * upward po))), .int (iI (ehx + (yt (sta * 12 + (ht sta - 1))) * toSide po)), .int (iI (ehy + (yt (sta * 12 + (ht sta - 1))) * upward po))])), (aP, .inr (5, [.ref aPx, .ref aPy, .int (iI pn)])), (aPx, .inl (gI g, 200, .inl (ar bx))), (aPy, .inl (gI g, 200, .inl (ar byy))), (aF, .inr (2, [.int (iI fx_o_1), .int (iI fy_o_2), .int (iI fhx_o_3), .int (iI fhy_o_4)])), (aS, .inr (6, [.ref aQ, .ref aSt, .ref aSx, .ref aSy, .int (iI sr_o_9), .int (iI sl_o_10)])), (aQ, .inr (2, [.int (iI qx_o_5), .int (iI qy_o_6), .int (iI qhx_o_7), .int (iI qhy_o_8)])), (aSt, .inl (gI g, 4, .inl (ar st_o_11))), (aSx, .inl (gI g, 4, .inl (ar sx_o_12))), (aSy, .inl (gI g, 4, .inl (ar sy_o_13))), (aY, .inr (9, [.ref aYh, .ref aYt, .ref aYc])), (aYh, .inl (gI g, 3, .inl (ar (up ht sta (ht sta - 1))))), (aYt, .inl (gI g, 36, .inl (ar yt))), (aG, .inr (3, [.ref aGn, .ref aGw, .ref aGs, .int (iI kn)])), (aGn, .inl (gI g, 200, .inl (ar nd))), (aGw, .inl (gI g, 200, .inl (ar wk))), (aTp, .inl (gI g, 200, .inl (ar (up tp ld po)))), (aYc, .inl (gI g, 36, .inl (ar yc))), (aGs, .inl (gI g, 200, .inl (ar (sinkF kn (sinkF kn (sinkF kn sk ld (mx 0 (gt0 kn nd ld - pr) * gt0 kn wk ld / 10)) (ld - 1) ((mx 0 (gt0 kn nd ld - pr) * gt0 kn wk ld / 10) / 2)) (ld + 1) ((mx 0 (gt0 kn nd ld - pr) * gt0 kn wk ld / 10) / 2))))), (aTt, .inl (gI g, 200, .inl (ar (up tt ld (yt (sta * 12 + (ht sta - 1))))))), (aTx, .inl (gI g, 200, .inl (ar (up kx ld (lastF ld kx + (ehx + (yt (sta * 12 + (ht sta - 1))) * toSide po)))))), (aTy, .inl (gI g, 200, .inl (ar (up ky ld (lastF ld ky + (ehy + (yt (sta * 12 + (ht sta - 1))) * upward po)))))), (aO, .inl (gl.1, 1, .inr (.inl (vp_updL lo (iI 0).toNatClampNeg (zL v_14)))))] := hD
      refine lv_goto (tgt := 29) hx hb dL_lay_10 (by decide) ?_
      refine x_iconst hx hb dL_lay_29 ?_
      have q_84 : (if laT sta po (reaF kn ld (ht sta) (mx 0 (yc (sta * 12 + (ht sta - 1)) + 24 - hou)) (lastP ld tp) po tk (takF nd wk pr ld) (devF pn bx byy kx ky ld ehx ehy (yt (sta * 12 + (ht sta - 1))) po) tol) hou = 0 then (tk - takF nd wk pr ld) else tk) = (tk - takF nd wk pr ld) := by
        first
        | (
           first | rfl | (rw [if_pos (by omega)]) | (rw [if_neg (by omega)]) | (rw [if_pos (by omega)]; subst_vars; rfl))
        | fail "q9"
      have q_85 : (if laT sta po (reaF kn ld (ht sta) (mx 0 (yc (sta * 12 + (ht sta - 1)) + 24 - hou)) (lastP ld tp) po tk (takF nd wk pr ld) (devF pn bx byy kx ky ld ehx ehy (yt (sta * 12 + (ht sta - 1))) po) tol) hou = 0 then (hou + 2) else hou) = (hou + 2) := by
        first
        | (
           first | rfl | (rw [if_pos (by omega)]) | (rw [if_neg (by omega)]) | (rw [if_pos (by omega)]; subst_vars; rfl))
        | fail "q9"
      have q_86 : (if laT sta po (reaF kn ld (ht sta) (mx 0 (yc (sta * 12 + (ht sta - 1)) + 24 - hou)) (lastP ld tp) po tk (takF nd wk pr ld) (devF pn bx byy kx ky ld ehx ehy (yt (sta * 12 + (ht sta - 1))) po) tol) hou = 0 then (ld + 1) else ld) = (ld + 1) := by
        first
        | (
           first | rfl | (rw [if_pos (by omega)]) | (rw [if_neg (by omega)]) | (rw [if_pos (by omega)]; subst_vars; rfl))
        | fail "q9"
      have q_87 : (if laT sta po (reaF kn ld (ht sta) (mx 0 (yc (sta * 12 + (ht sta - 1)) + 24 - hou)) (lastP ld tp) po tk (takF nd wk pr ld) (devF pn bx byy kx ky ld ehx ehy (yt (sta * 12 + (ht sta - 1))) po) tol) hou = 0 then (lastF ld kx + (ehx + (yt (sta * 12 + (ht sta - 1))) * toSide po)) else ex) = (lastF ld kx + (ehx + (yt (sta * 12 + (ht sta - 1))) * toSide po)) := by
        first
        | (
           first | rfl | (rw [if_pos (by omega)]) | (rw [if_neg (by omega)]) | (rw [if_pos (by omega)]; subst_vars; rfl))
        | fail "q9"
      have q_88 : (if laT sta po (reaF kn ld (ht sta) (mx 0 (yc (sta * 12 + (ht sta - 1)) + 24 - hou)) (lastP ld tp) po tk (takF nd wk pr ld) (devF pn bx byy kx ky ld ehx ehy (yt (sta * 12 + (ht sta - 1))) po) tol) hou = 0 then (lastF ld ky + (ehy + (yt (sta * 12 + (ht sta - 1))) * upward po)) else ey) = (lastF ld ky + (ehy + (yt (sta * 12 + (ht sta - 1))) * upward po)) := by
        first
        | (
           first | rfl | (rw [if_pos (by omega)]) | (rw [if_neg (by omega)]) | (rw [if_pos (by omega)]; subst_vars; rfl))
        | fail "q9"
      have q_89 : (if laT sta po (reaF kn ld (ht sta) (mx 0 (yc (sta * 12 + (ht sta - 1)) + 24 - hou)) (lastP ld tp) po tk (takF nd wk pr ld) (devF pn bx byy kx ky ld ehx ehy (yt (sta * 12 + (ht sta - 1))) po) tol) hou = 0 then (ehx + (yt (sta * 12 + (ht sta - 1))) * toSide po) else ehx) = (ehx + (yt (sta * 12 + (ht sta - 1))) * toSide po) := by
        first
        | (
           first | rfl | (rw [if_pos (by omega)]) | (rw [if_neg (by omega)]) | (rw [if_pos (by omega)]; subst_vars; rfl))
        | fail "q9"
      have q_90 : (if laT sta po (reaF kn ld (ht sta) (mx 0 (yc (sta * 12 + (ht sta - 1)) + 24 - hou)) (lastP ld tp) po tk (takF nd wk pr ld) (devF pn bx byy kx ky ld ehx ehy (yt (sta * 12 + (ht sta - 1))) po) tol) hou = 0 then (ehy + (yt (sta * 12 + (ht sta - 1))) * upward po) else ehy) = (ehy + (yt (sta * 12 + (ht sta - 1))) * upward po) := by
        first
        | (
           first | rfl | (rw [if_pos (by omega)]) | (rw [if_neg (by omega)]) | (rw [if_pos (by omega)]; subst_vars; rfl))
        | fail "q9"
      have q_91 : (if laT sta po (reaF kn ld (ht sta) (mx 0 (yc (sta * 12 + (ht sta - 1)) + 24 - hou)) (lastP ld tp) po tk (takF nd wk pr ld) (devF pn bx byy kx ky ld ehx ehy (yt (sta * 12 + (ht sta - 1))) po) tol) hou = 0 then (up ht sta (ht sta - 1)) else ht) = (up ht sta (ht sta - 1)) := by
        first
        | (
           first | rfl | (rw [if_pos (by omega)]) | (rw [if_neg (by omega)]) | (rw [if_pos (by omega)]; subst_vars; rfl))
        | fail "q9"
      have q_92 : (if laT sta po (reaF kn ld (ht sta) (mx 0 (yc (sta * 12 + (ht sta - 1)) + 24 - hou)) (lastP ld tp) po tk (takF nd wk pr ld) (devF pn bx byy kx ky ld ehx ehy (yt (sta * 12 + (ht sta - 1))) po) tol) hou = 0 then (up tp ld po) else tp) = (up tp ld po) := by
        first
        | (
           first | rfl | (rw [if_pos (by omega)]) | (rw [if_neg (by omega)]) | (rw [if_pos (by omega)]; subst_vars; rfl))
        | fail "q9"
      have q_93 : (if laT sta po (reaF kn ld (ht sta) (mx 0 (yc (sta * 12 + (ht sta - 1)) + 24 - hou)) (lastP ld tp) po tk (takF nd wk pr ld) (devF pn bx byy kx ky ld ehx ehy (yt (sta * 12 + (ht sta - 1))) po) tol) hou = 0 then (sinkF kn (sinkF kn (sinkF kn sk ld (mx 0 (gt0 kn nd ld - pr) * gt0 kn wk ld / 10)) (ld - 1) ((mx 0 (gt0 kn nd ld - pr) * gt0 kn wk ld / 10) / 2)) (ld + 1) ((mx 0 (gt0 kn nd ld - pr) * gt0 kn wk ld / 10) / 2)) else sk) = (sinkF kn (sinkF kn (sinkF kn sk ld (mx 0 (gt0 kn nd ld - pr) * gt0 kn wk ld / 10)) (ld - 1) ((mx 0 (gt0 kn nd ld - pr) * gt0 kn wk ld / 10) / 2)) (ld + 1) ((mx 0 (gt0 kn nd ld - pr) * gt0 kn wk ld / 10) / 2)) := by
        first
        | (
           first | rfl | (rw [if_pos (by omega)]) | (rw [if_neg (by omega)]) | (rw [if_pos (by omega)]; subst_vars; rfl))
        | fail "q9"
      have q_94 : (if laT sta po (reaF kn ld (ht sta) (mx 0 (yc (sta * 12 + (ht sta - 1)) + 24 - hou)) (lastP ld tp) po tk (takF nd wk pr ld) (devF pn bx byy kx ky ld ehx ehy (yt (sta * 12 + (ht sta - 1))) po) tol) hou = 0 then (up tt ld (yt (sta * 12 + (ht sta - 1)))) else tt) = (up tt ld (yt (sta * 12 + (ht sta - 1)))) := by
        first
        | (
           first | rfl | (rw [if_pos (by omega)]) | (rw [if_neg (by omega)]) | (rw [if_pos (by omega)]; subst_vars; rfl))
        | fail "q9"
      have q_95 : (if laT sta po (reaF kn ld (ht sta) (mx 0 (yc (sta * 12 + (ht sta - 1)) + 24 - hou)) (lastP ld tp) po tk (takF nd wk pr ld) (devF pn bx byy kx ky ld ehx ehy (yt (sta * 12 + (ht sta - 1))) po) tol) hou = 0 then (up kx ld (lastF ld kx + (ehx + (yt (sta * 12 + (ht sta - 1))) * toSide po))) else kx) = (up kx ld (lastF ld kx + (ehx + (yt (sta * 12 + (ht sta - 1))) * toSide po))) := by
        first
        | (
           first | rfl | (rw [if_pos (by omega)]) | (rw [if_neg (by omega)]) | (rw [if_pos (by omega)]; subst_vars; rfl))
        | fail "q9"
      have q_96 : (if laT sta po (reaF kn ld (ht sta) (mx 0 (yc (sta * 12 + (ht sta - 1)) + 24 - hou)) (lastP ld tp) po tk (takF nd wk pr ld) (devF pn bx byy kx ky ld ehx ehy (yt (sta * 12 + (ht sta - 1))) po) tol) hou = 0 then (up ky ld (lastF ld ky + (ehy + (yt (sta * 12 + (ht sta - 1))) * upward po))) else ky) = (up ky ld (lastF ld ky + (ehy + (yt (sta * 12 + (ht sta - 1))) * upward po))) := by
        first
        | (
           first | rfl | (rw [if_pos (by omega)]) | (rw [if_neg (by omega)]) | (rw [if_pos (by omega)]; subst_vars; rfl))
        | fail "q9"
      have hw_97 := (congr (congr (congr (congr (congr (congr (congr (congr (congr (congr (congr (congr (congrArg (fun (z0 : Int) (z1 : Int) (z2 : Int) (z3 : Int) (z4 : Int) (z5 : Int) (z6 : Int) (z7 : Int → Int) (z8 : Int → Int) (z9 : Int → Int) (z10 : Int → Int) (z11 : Int → Int) (z12 : Int → Int) => ([(aR, .inr (10, [.ref aG, .ref aP, .ref aH, .ref aY, .ref aT, .ref aS, .ref aF, .ref aX, .int (iI pr), .int (iI z0), .int (iI tol), .int (iI z1)])), (aT, .inr (8, [.ref aTp, .ref aTt, .ref aTx, .ref aTy, .ref aE, .int (iI z2)])), (aE, .inr (2, [.int (iI z3), .int (iI z4), .int (iI z5), .int (iI z6)])), (aP, .inr (5, [.ref aPx, .ref aPy, .int (iI pn)])), (aPx, .inl (gI g, 200, .inl (ar bx))), (aPy, .inl (gI g, 200, .inl (ar byy))), (aF, .inr (2, [.int (iI fx_o_1), .int (iI fy_o_2), .int (iI fhx_o_3), .int (iI fhy_o_4)])), (aS, .inr (6, [.ref aQ, .ref aSt, .ref aSx, .ref aSy, .int (iI sr_o_9), .int (iI sl_o_10)])), (aQ, .inr (2, [.int (iI qx_o_5), .int (iI qy_o_6), .int (iI qhx_o_7), .int (iI qhy_o_8)])), (aSt, .inl (gI g, 4, .inl (ar st_o_11))), (aSx, .inl (gI g, 4, .inl (ar sx_o_12))), (aSy, .inl (gI g, 4, .inl (ar sy_o_13))), (aY, .inr (9, [.ref aYh, .ref aYt, .ref aYc])), (aYh, .inl (gI g, 3, .inl (ar z7))), (aYt, .inl (gI g, 36, .inl (ar yt))), (aG, .inr (3, [.ref aGn, .ref aGw, .ref aGs, .int (iI kn)])), (aGn, .inl (gI g, 200, .inl (ar nd))), (aGw, .inl (gI g, 200, .inl (ar wk))), (aTp, .inl (gI g, 200, .inl (ar z8))), (aYc, .inl (gI g, 36, .inl (ar yc))), (aGs, .inl (gI g, 200, .inl (ar z9))), (aTt, .inl (gI g, 200, .inl (ar z10))), (aTx, .inl (gI g, 200, .inl (ar z11))), (aTy, .inl (gI g, 200, .inl (ar z12))), (aO, .inl (gl.1, 1, .inr (.inl (vp_updL lo (iI 0).toNatClampNeg (zL v_14)))))] : va_W)) q_84.symm) q_85.symm) q_86.symm) q_87.symm) q_88.symm) q_89.symm) q_90.symm) q_91.symm) q_92.symm) q_93.symm) q_94.symm) q_95.symm) q_96.symm)
      rw [hQ9]
      exact x_iret hx hb hr hlocks hP hD hS (S := Int × Int × Int × Int × Int × Int × Int × Int × Int × Int × (Int → Int) × (Int → Int) × (Int → Int) × (Nat → Int64)) rfl dL_lay_30 ⟨fx_o_1, fy_o_2, fhx_o_3, fhy_o_4, qx_o_5, qy_o_6, qhx_o_7, qhy_o_8, sr_o_9, sl_o_10, st_o_11, sx_o_12, sy_o_13, (vp_updL lo (iI 0).toNatClampNeg (zL v_14))⟩ (by
          first
          | (
             first | omega | (subst_vars; omega))
          | fail "q9") (by
          first
          | (
             refine ⟨fun h0 => ?_, ?_⟩
             · first | (exfalso; omega) | ((try dsimp only); rw [zl_up]; subst_vars; rfl) | ((try dsimp only); rw [zl_up]; congr 1)
             · first | exact hjk | exact hjk.2 | exact hXP | exact ⟨hb_st, hb_sx, hb_sy⟩)
          | fail "q9") hw_97 (Nat.le_of_ble_eq_true rfl) (Nat.le_of_ble_eq_true rfl)
  rw [hH, hlo, hQ9] at goal_
  exact goal_

set_option maxHeartbeats 4000000 in
set_option maxRecDepth 100000 in
theorem c_L_stop (l : Launch) (hflags : l.stackTraces = false) (g : xg) (gl : ClassId × ClassId) (sz : Nat) (aR aG aP aH aY aT aS aF aX aGn aGw aGs aTp aTt aTx aTy aE aO : Nat) (pr tk tol hou kn ld hrs : Int) (nd wk sk : Int → Int) (lo : Nat → Int64) (hkn : 0 ≤ kn ∧ kn ≤ 200) (hld : 0 ≤ ld ∧ ld ≤ 200) (hhou : 0 ≤ hou ∧ hou ≤ 5000) (hpr : 0 ≤ pr ∧ pr ≤ 100) (hb_nd : bnd nd 0 100) (hb_wk : bnd wk 0 20) (hr_hrs : iR hrs) : Met l yL_stop wsL_stop { frames := 8, cells := 2, slots := 12, locals := 135 } (va_Pc [.ref aR, .int (iI hrs), .ref aO] (xBL g gl [(aR, .inr (10, [.ref aG, .ref aP, .ref aH, .ref aY, .ref aT, .ref aS, .ref aF, .ref aX, .int (iI pr), .int (iI tk), .int (iI tol), .int (iI hou)])), (aG, .inr (3, [.ref aGn, .ref aGw, .ref aGs, .int (iI kn)])), (aGn, .inl (gI g, 200, .inl (ar nd))), (aGw, .inl (gI g, 200, .inl (ar wk))), (aGs, .inl (gI g, 200, .inl (ar sk))), (aT, .inr (8, [.ref aTp, .ref aTt, .ref aTx, .ref aTy, .ref aE, .int (iI ld)])), (aO, .inl (gl.1, 1, .inr (.inl lo)))] sz)) (va_Qi (fun r u => r = iI ((fun (u : (Nat → Int64)) => soT hou hrs) u) ∧ (fun (u : (Nat → Int64)) => (soT hou hrs = 0 → u 0 = zL (hou + hrs))) u) (fun u t => xE g (va_A [(aR, .inr (10, [.ref aG, .ref aP, .ref aH, .ref aY, .ref aT, .ref aS, .ref aF, .ref aX, .int (iI pr), .int (iI tk), .int (iI tol), .int (iI hou)])), (aG, .inr (3, [.ref aGn, .ref aGw, .ref aGs, .int (iI kn)])), (aGn, .inl (gI g, 200, .inl (ar nd))), (aGw, .inl (gI g, 200, .inl (ar wk))), (aGs, .inl (gI g, 200, .inl (ar sk))), (aT, .inr (8, [.ref aTp, .ref aTt, .ref aTx, .ref aTy, .ref aE, .int (iI ld)])), (aO, .inl (gl.1, 1, .inr (.inl lo)))] sz) ((fun (u : (Nat → Int64)) => [(aR, .inr (10, [.ref aG, .ref aP, .ref aH, .ref aY, .ref aT, .ref aS, .ref aF, .ref aX, .int (iI pr), .int (iI tk), .int (iI tol), .int (iI (if soT hou hrs = 0 then (hou + hrs) else hou))])), (aG, .inr (3, [.ref aGn, .ref aGw, .ref aGs, .int (iI kn)])), (aGn, .inl (gI g, 200, .inl (ar nd))), (aGw, .inl (gI g, 200, .inl (ar wk))), (aGs, .inl (gI g, 200, .inl (ar (if soT hou hrs = 0 then (sinkF kn sk ld (hrs * (mx 0 (gt0 kn nd ld - pr) * gt0 kn wk ld / 50))) else sk)))), (aT, .inr (8, [.ref aTp, .ref aTt, .ref aTx, .ref aTy, .ref aE, .int (iI ld)])), (aO, .inl (gl.1, 1, .inr (.inl u)))]) u) t) (va_A [(aR, .inr (10, [.ref aG, .ref aP, .ref aH, .ref aY, .ref aT, .ref aS, .ref aF, .ref aX, .int (iI pr), .int (iI tk), .int (iI tol), .int (iI hou)])), (aG, .inr (3, [.ref aGn, .ref aGw, .ref aGs, .int (iI kn)])), (aGn, .inl (gI g, 200, .inl (ar nd))), (aGw, .inl (gI g, 200, .inl (ar wk))), (aGs, .inl (gI g, 200, .inl (ar sk))), (aT, .inr (8, [.ref aTp, .ref aTt, .ref aTx, .ref aTy, .ref aE, .int (iI ld)])), (aO, .inl (gl.1, 1, .inr (.inl lo)))] sz)) 2 12 (va_A [(aR, .inr (10, [.ref aG, .ref aP, .ref aH, .ref aY, .ref aT, .ref aS, .ref aF, .ref aX, .int (iI pr), .int (iI tk), .int (iI tol), .int (iI hou)])), (aG, .inr (3, [.ref aGn, .ref aGw, .ref aGs, .int (iI kn)])), (aGn, .inl (gI g, 200, .inl (ar nd))), (aGw, .inl (gI g, 200, .inl (ar wk))), (aGs, .inl (gI g, 200, .inl (ar sk))), (aT, .inr (8, [.ref aTp, .ref aTt, .ref aTx, .ref aTy, .ref aE, .int (iI ld)])), (aO, .inl (gl.1, 1, .inr (.inl lo)))] sz) := by
  refine x_enterH (y := yL_stop) (ws := wsL_stop) (g := g) (sz := sz) (av := [.ref aR, .int (iI hrs), .ref aO]) (WS := [(aR, .inr (10, [.ref aG, .ref aP, .ref aH, .ref aY, .ref aT, .ref aS, .ref aF, .ref aX, .int (iI pr), .int (iI tk), .int (iI tol), .int (iI hou)])), (aG, .inr (3, [.ref aGn, .ref aGw, .ref aGs, .int (iI kn)])), (aGn, .inl (gI g, 200, .inl (ar nd))), (aGw, .inl (gI g, 200, .inl (ar wk))), (aGs, .inl (gI g, 200, .inl (ar sk))), (aT, .inr (8, [.ref aTp, .ref aTt, .ref aTx, .ref aTy, .ref aE, .int (iI ld)])), (aO, .inl (gl.1, 1, .inr (.inl lo)))]) (cc := cL_stop) (maxL := 4) (ret := some .int) (Qc := (fun A => (va_Qi (fun r u => r = iI ((fun (u : (Nat → Int64)) => soT hou hrs) u) ∧ (fun (u : (Nat → Int64)) => (soT hou hrs = 0 → u 0 = zL (hou + hrs))) u) (fun u t => xE g A ((fun (u : (Nat → Int64)) => [(aR, .inr (10, [.ref aG, .ref aP, .ref aH, .ref aY, .ref aT, .ref aS, .ref aF, .ref aX, .int (iI pr), .int (iI tk), .int (iI tol), .int (iI (if soT hou hrs = 0 then (hou + hrs) else hou))])), (aG, .inr (3, [.ref aGn, .ref aGw, .ref aGs, .int (iI kn)])), (aGn, .inl (gI g, 200, .inl (ar nd))), (aGw, .inl (gI g, 200, .inl (ar wk))), (aGs, .inl (gI g, 200, .inl (ar (if soT hou hrs = 0 then (sinkF kn sk ld (hrs * (mx 0 (gt0 kn nd ld - pr) * gt0 kn wk ld / 50))) else sk)))), (aT, .inr (8, [.ref aTp, .ref aTt, .ref aTx, .ref aTy, .ref aE, .int (iI ld)])), (aO, .inl (gl.1, 1, .inr (.inl u)))]) u) t) A))) (by decide) rfl (Nat.le_of_ble_eq_true rfl) ?_
  intro p e s m args below meth c A ls hx hb hr hml hown hts hlocks htab hL hC hP hD hS hA hl
  have hK := hC.1
  have hown : s.vm.findClass RL = some m.cls := hown
  have hl : lv_has ls 4 [(0, .ref aR), (1, .int (iI hrs)), (2, .ref aO)] := hl
  obtain ⟨H, hH⟩ : ∃ z, z = s.heap := ⟨_, rfl⟩
  obtain ⟨locs, hlo⟩ : ∃ z : List Loc, z = [] := ⟨_, rfl⟩
  obtain ⟨Q9, hQ9⟩ : ∃ z, z = MQ below (va_Qi (fun r u => r = iI ((fun (u : (Nat → Int64)) => soT hou hrs) u) ∧ (fun (u : (Nat → Int64)) => (soT hou hrs = 0 → u 0 = zL (hou + hrs))) u) (fun u t => xE g A ((fun (u : (Nat → Int64)) => [(aR, .inr (10, [.ref aG, .ref aP, .ref aH, .ref aY, .ref aT, .ref aS, .ref aF, .ref aX, .int (iI pr), .int (iI tk), .int (iI tol), .int (iI (if soT hou hrs = 0 then (hou + hrs) else hou))])), (aG, .inr (3, [.ref aGn, .ref aGw, .ref aGs, .int (iI kn)])), (aGn, .inl (gI g, 200, .inl (ar nd))), (aGw, .inl (gI g, 200, .inl (ar wk))), (aGs, .inl (gI g, 200, .inl (ar (if soT hou hrs = 0 then (sinkF kn sk ld (hrs * (mx 0 (gt0 kn nd ld - pr) * gt0 kn wk ld / 50))) else sk)))), (aT, .inr (8, [.ref aTp, .ref aTt, .ref aTx, .ref aTy, .ref aE, .int (iI ld)])), (aO, .inl (gl.1, 1, .inr (.inl u)))]) u) t) A) args s 2 12 A := ⟨_, rfl⟩
  have hP : va_P (gD g) vwCl [(aR, .inr (10, [.ref aG, .ref aP, .ref aH, .ref aY, .ref aT, .ref aS, .ref aF, .ref aX, .int (iI pr), .int (iI tk), .int (iI tol), .int (iI hou)])), (aG, .inr (3, [.ref aGn, .ref aGw, .ref aGs, .int (iI kn)])), (aGn, .inl (gI g, 200, .inl (ar nd))), (aGw, .inl (gI g, 200, .inl (ar wk))), (aGs, .inl (gI g, 200, .inl (ar sk))), (aT, .inr (8, [.ref aTp, .ref aTt, .ref aTx, .ref aTy, .ref aE, .int (iI ld)])), (aO, .inl (gl.1, 1, .inr (.inl lo)))] H := by rw [hH]; exact hP
  have hS : va_S A s.heap H locs := by rw [hH, hlo]; exact hS
  have goal_ : W p l e { frames := 8, cells := 2, slots := 12, locals := 135 } s m args below meth c H locs 0 0 Q9 (F0 m 0 ls []) := by
    clear hH hlo
    refine lv_aload_n hx hb dL_stop_0 rfl (lv_at hl 2 rfl) ?_
    refine x_iconst hx hb dL_stop_1 ?_
    refine lv_aload_n hx hb dL_stop_2 rfl (lv_at hl 0 rfl) ?_
    refine lv_iload_n hx hb dL_stop_3 rfl (lv_at hl 1 rfl) ?_
    refine x_calliX (S := Unit) (SX := Unit) (wc := [(aR, .inr (10, [.ref aG, .ref aP, .ref aH, .ref aY, .ref aT, .ref aS, .ref aF, .ref aX, .int (iI pr), .int (iI tk), .int (iI tol), .int (iI hou)])), (aG, .inr (3, [.ref aGn, .ref aGw, .ref aGs, .int (iI kn)])), (aGn, .inl (gI g, 200, .inl (ar nd))), (aGw, .inl (gI g, 200, .inl (ar wk))), (aGs, .inl (gI g, 200, .inl (ar sk))), (aT, .inr (8, [.ref aTp, .ref aTt, .ref aTx, .ref aTy, .ref aE, .int (iI ld)]))]) (wr := [(aO, .inl (gl.1, 1, .inr (.inl lo)))]) hC hP hD hS hA [0, 1, 2, 3, 4, 5] [6] [1, 2, 3, 4, 5, 6, 0] rfl rfl (fun hpre => vx_runV (As := [.int (iI hrs)]) (rest := [.int (iI 0), .ref aO]) ⟨hx, hb, hml, hown, hts⟩ (c_X8_stop l hflags g H.size aR aG aP aH aY aT aS aF aX aGn aGw aGs aTp aTt aTx aTy aE pr tk tol hou kn ld hrs nd wk sk (by first | (first | assumption | omega | exact bnd_up (by assumption) (by omega) (by omega)) | fail "q8") (by first | (first | assumption | omega | exact bnd_up (by assumption) (by omega) (by omega)) | fail "q8") (by first | (first | assumption | omega | exact bnd_up (by assumption) (by omega) (by omega)) | fail "q8") (by first | (first | assumption | omega | exact bnd_up (by assumption) (by omega) (by omega)) | fail "q8") (by first | (first | assumption | omega | exact bnd_up (by assumption) (by omega) (by omega)) | fail "q8") (by first | (first | assumption | omega | exact bnd_up (by assumption) (by omega) (by omega)) | fail "q8") (by first | (first | assumption | omega | exact bnd_up (by assumption) (by omega) (by omega)) | fail "q8")) (cwV 1 hts gL_stop_X8_stop rfl rfl rfl (by decide +kernel) ⟨Nat.le_of_ble_eq_true rfl, Nat.le_of_ble_eq_true rfl⟩) ⟨xB_blind, va_recv hK hP (ci := 10) (q0 := 0) rfl rfl, hpre _⟩ rfl rfl hl.1 rfl (lv_room (Nat.le_of_ble_eq_true rfl)) dL_stop_4 ⟨Nat.le_of_ble_eq_true rfl, Nat.le_of_ble_eq_true rfl⟩) (fun (u : Unit) => [(aR, .inr (10, [.ref aG, .ref aP, .ref aH, .ref aY, .ref aT, .ref aS, .ref aF, .ref aX, .int (iI pr), .int (iI tk), .int (iI tol), .int (iI (hou + hrs))])), (aG, .inr (3, [.ref aGn, .ref aGw, .ref aGs, .int (iI kn)])), (aGn, .inl (gI g, 200, .inl (ar nd))), (aGw, .inl (gI g, 200, .inl (ar wk))), (aGs, .inl (gI g, 200, .inl (ar (sinkF kn sk ld (hrs * (mx 0 (gt0 kn nd ld - pr) * gt0 kn wk ld / 50)))))), (aT, .inr (8, [.ref aTp, .ref aTt, .ref aTx, .ref aTy, .ref aE, .int (iI ld)])), (aO, .inl (gl.1, 1, .inr (.inl lo)))]) (fun (u : Unit) => ([(aR, .inr (10, [.ref aG, .ref aP, .ref aH, .ref aY, .ref aT, .ref aS, .ref aF, .ref aX, .int (iI pr), .int (iI tk), .int (iI tol), .int (iI hou)])), (aG, .inr (3, [.ref aGn, .ref aGw, .ref aGs, .int (iI kn)])), (aGn, .inl (gI g, 200, .inl (ar nd))), (aGw, .inl (gI g, 200, .inl (ar wk))), (aGs, .inl (gI g, 200, .inl (ar sk))), (aT, .inr (8, [.ref aTp, .ref aTt, .ref aTx, .ref aTy, .ref aE, .int (iI ld)])), (aO, .inl (gl.1, 1, .inr (.inl lo)))] : va_W)) rfl rfl (by decide) (fun _ => rfl) (fun _ => rfl) rfl (fun E ce q9 u H locs hXP hPX hP hD hS hcell hv9 hcl => ?_) (fun u v_1 H locs hv_1 pv_1 hP hD hS => ?_)
    · skip
      have hP : va_P (gD g) vwCl [(aR, .inr (10, [.ref aG, .ref aP, .ref aH, .ref aY, .ref aT, .ref aS, .ref aF, .ref aX, .int (iI pr), .int (iI tk), .int (iI tol), .int (iI hou)])), (aG, .inr (3, [.ref aGn, .ref aGw, .ref aGs, .int (iI kn)])), (aGn, .inl (gI g, 200, .inl (ar nd))), (aGw, .inl (gI g, 200, .inl (ar wk))), (aGs, .inl (gI g, 200, .inl (ar sk))), (aT, .inr (8, [.ref aTp, .ref aTt, .ref aTx, .ref aTy, .ref aE, .int (iI ld)])), (aO, .inl (gl.1, 1, .inr (.inl lo)))] H := hP
      have hD : va_D A [(aR, .inr (10, [.ref aG, .ref aP, .ref aH, .ref aY, .ref aT, .ref aS, .ref aF, .ref aX, .int (iI pr), .int (iI tk), .int (iI tol), .int (iI hou)])), (aG, .inr (3, [.ref aGn, .ref aGw, .ref aGs, .int (iI kn)])), (aGn, .inl (gI g, 200, .inl (ar nd))), (aGw, .inl (gI g, 200, .inl (ar wk))), (aGs, .inl (gI g, 200, .inl (ar sk))), (aT, .inr (8, [.ref aTp, .ref aTt, .ref aTx, .ref aTy, .ref aE, .int (iI ld)])), (aO, .inl (gl.1, 1, .inr (.inl lo)))] := hD
      rcases hPX with ⟨hE, hp⟩ | ⟨hE, hp⟩
      · skip
        have hp : soT hou hrs = 1 := hp
        subst hE
        refine vx_catch (E := "java/lang/IllegalArgumentException") (name := "java/lang/IllegalArgumentException") hown [] ⟨0, 9, 12, 13⟩ [⟨0, 9, 15, 15⟩] (by rw [htab]; rfl) (fun z hz => by cases hz) (by decide) (by decide) (hts (.classLink RL 13 "java/lang/IllegalArgumentException") (List.mem_of_getElem? (i := 1) rfl)) (va_Nw.use rfl (hC.2.2.2.2.2.2.2.2.2.2.1 "java/lang/IllegalArgumentException" (List.mem_of_getElem? (i := 0) rfl))) hcell hv9 hcl ?_
        refine lv_astore_n (lv' := [(3, .ref q9), (0, .ref aR), (1, .int (iI hrs)), (2, .ref aO)]) hx hb dL_stop_12 rfl hl (by decide) rfl (fun ls hl => ?_)
        refine x_iconst hx hb dL_stop_13 ?_
        have q_2 : (if soT hou hrs = 0 then (hou + hrs) else hou) = hou := by
          first
          | (
             first | rfl | (rw [if_pos (by omega)]) | (rw [if_neg (by omega)]) | (rw [if_pos (by omega)]; subst_vars; rfl))
          | fail "q9"
        have q_3 : (if soT hou hrs = 0 then (sinkF kn sk ld (hrs * (mx 0 (gt0 kn nd ld - pr) * gt0 kn wk ld / 50))) else sk) = sk := by
          first
          | (
             first | rfl | (rw [if_pos (by omega)]) | (rw [if_neg (by omega)]) | (rw [if_pos (by omega)]; subst_vars; rfl))
          | fail "q9"
        have hw_4 := (congr (congrArg (fun (z0 : Int) (z1 : Int → Int) => ([(aR, .inr (10, [.ref aG, .ref aP, .ref aH, .ref aY, .ref aT, .ref aS, .ref aF, .ref aX, .int (iI pr), .int (iI tk), .int (iI tol), .int (iI z0)])), (aG, .inr (3, [.ref aGn, .ref aGw, .ref aGs, .int (iI kn)])), (aGn, .inl (gI g, 200, .inl (ar nd))), (aGw, .inl (gI g, 200, .inl (ar wk))), (aGs, .inl (gI g, 200, .inl (ar z1))), (aT, .inr (8, [.ref aTp, .ref aTt, .ref aTx, .ref aTy, .ref aE, .int (iI ld)])), (aO, .inl (gl.1, 1, .inr (.inl lo)))] : va_W)) q_2.symm) q_3.symm)
        rw [hQ9]
        exact x_iret hx hb hr hlocks hP hD hS (S := (Nat → Int64)) rfl dL_stop_14 lo (by
            first
            | (
               first | omega | (subst_vars; omega))
            | fail "q9") (by
            first
            | (
               intro h0
               first | (exfalso; omega) | ((try dsimp only); rw [zl_up]; subst_vars; rfl) | ((try dsimp only); rw [zl_up]; congr 1))
            | fail "q9") hw_4 (Nat.le_of_ble_eq_true rfl) (Nat.le_of_ble_eq_true rfl)
      · skip
        have hp : soT hou hrs = 2 := hp
        subst hE
        refine vx_catch (E := "java/lang/IllegalStateException") (name := "java/lang/IllegalStateException") hown [⟨0, 9, 12, 13⟩] ⟨0, 9, 15, 15⟩ [] (by rw [htab]; rfl) (fun z hz => by rcases List.mem_cons.mp hz with rfl | hz; exact Or.inr ⟨by decide, "java/lang/IllegalArgumentException", (hts (.classLink RL 13 "java/lang/IllegalArgumentException") (List.mem_of_getElem? (i := 1) rfl)), hL.2 ("java/lang/IllegalStateException", "java/lang/IllegalArgumentException") (List.mem_of_getElem? (i := 5) (by decide +kernel))⟩; cases hz) (by decide) (by decide) (hts (.classLink RL 15 "java/lang/IllegalStateException") (List.mem_of_getElem? (i := 2) rfl)) (va_Nw.use rfl (hC.2.2.2.2.2.2.2.2.2.2.1 "java/lang/IllegalStateException" (List.mem_of_getElem? (i := 1) rfl))) hcell hv9 hcl ?_
        refine lv_astore_n (lv' := [(3, .ref q9), (0, .ref aR), (1, .int (iI hrs)), (2, .ref aO)]) hx hb dL_stop_15 rfl hl (by decide) rfl (fun ls hl => ?_)
        refine x_iconst hx hb dL_stop_16 ?_
        have q_5 : (if soT hou hrs = 0 then (hou + hrs) else hou) = hou := by
          first
          | (
             first | rfl | (rw [if_pos (by omega)]) | (rw [if_neg (by omega)]) | (rw [if_pos (by omega)]; subst_vars; rfl))
          | fail "q9"
        have q_6 : (if soT hou hrs = 0 then (sinkF kn sk ld (hrs * (mx 0 (gt0 kn nd ld - pr) * gt0 kn wk ld / 50))) else sk) = sk := by
          first
          | (
             first | rfl | (rw [if_pos (by omega)]) | (rw [if_neg (by omega)]) | (rw [if_pos (by omega)]; subst_vars; rfl))
          | fail "q9"
        have hw_7 := (congr (congrArg (fun (z0 : Int) (z1 : Int → Int) => ([(aR, .inr (10, [.ref aG, .ref aP, .ref aH, .ref aY, .ref aT, .ref aS, .ref aF, .ref aX, .int (iI pr), .int (iI tk), .int (iI tol), .int (iI z0)])), (aG, .inr (3, [.ref aGn, .ref aGw, .ref aGs, .int (iI kn)])), (aGn, .inl (gI g, 200, .inl (ar nd))), (aGw, .inl (gI g, 200, .inl (ar wk))), (aGs, .inl (gI g, 200, .inl (ar z1))), (aT, .inr (8, [.ref aTp, .ref aTt, .ref aTx, .ref aTy, .ref aE, .int (iI ld)])), (aO, .inl (gl.1, 1, .inr (.inl lo)))] : va_W)) q_5.symm) q_6.symm)
        rw [hQ9]
        exact x_iret hx hb hr hlocks hP hD hS (S := (Nat → Int64)) rfl dL_stop_17 lo (by
            first
            | (
               first | omega | (subst_vars; omega))
            | fail "q9") (by
            first
            | (
               intro h0
               first | (exfalso; omega) | ((try dsimp only); rw [zl_up]; subst_vars; rfl) | ((try dsimp only); rw [zl_up]; congr 1))
            | fail "q9") hw_7 (Nat.le_of_ble_eq_true rfl) (Nat.le_of_ble_eq_true rfl)
    · skip
      have hP : va_P (gD g) vwCl [(aR, .inr (10, [.ref aG, .ref aP, .ref aH, .ref aY, .ref aT, .ref aS, .ref aF, .ref aX, .int (iI pr), .int (iI tk), .int (iI tol), .int (iI (hou + hrs))])), (aG, .inr (3, [.ref aGn, .ref aGw, .ref aGs, .int (iI kn)])), (aGn, .inl (gI g, 200, .inl (ar nd))), (aGw, .inl (gI g, 200, .inl (ar wk))), (aGs, .inl (gI g, 200, .inl (ar (sinkF kn sk ld (hrs * (mx 0 (gt0 kn nd ld - pr) * gt0 kn wk ld / 50)))))), (aT, .inr (8, [.ref aTp, .ref aTt, .ref aTx, .ref aTy, .ref aE, .int (iI ld)])), (aO, .inl (gl.1, 1, .inr (.inl lo)))] H := hP
      have hD : va_D A [(aR, .inr (10, [.ref aG, .ref aP, .ref aH, .ref aY, .ref aT, .ref aS, .ref aF, .ref aX, .int (iI pr), .int (iI tk), .int (iI tol), .int (iI (hou + hrs))])), (aG, .inr (3, [.ref aGn, .ref aGw, .ref aGs, .int (iI kn)])), (aGn, .inl (gI g, 200, .inl (ar nd))), (aGw, .inl (gI g, 200, .inl (ar wk))), (aGs, .inl (gI g, 200, .inl (ar (sinkF kn sk ld (hrs * (mx 0 (gt0 kn nd ld - pr) * gt0 kn wk ld / 50)))))), (aT, .inr (8, [.ref aTp, .ref aTt, .ref aTx, .ref aTy, .ref aE, .int (iI ld)])), (aO, .inl (gl.1, 1, .inr (.inl lo)))] := hD
      have hv_1 : v_1 = hou + hrs := hv_1
      obtain ⟨tv_1, pv_1⟩ := pv_1
      have tv_1 : soT hou hrs = 0 := tv_1
      refine x_i2z hx hb dL_stop_7 ?_
      refine va_last hx hb hL.1 hP hD hS 6 0 rfl rfl zl_in dL_stop_8 (fun H locs hP hD hS => ?_)
      have hP : va_P (gD g) vwCl [(aR, .inr (10, [.ref aG, .ref aP, .ref aH, .ref aY, .ref aT, .ref aS, .ref aF, .ref aX, .int (iI pr), .int (iI tk), .int (iI tol), .int (iI (hou + hrs))])), (aG, .inr (3, [.ref aGn, .ref aGw, .ref aGs, .int (iI kn)])), (aGn, .inl (gI g, 200, .inl (ar nd))), (aGw, .inl (gI g, 200, .inl (ar wk))), (aGs, .inl (gI g, 200, .inl (ar (sinkF kn sk ld (hrs * (mx 0 (gt0 kn nd ld - pr) * gt0 kn wk ld / 50)))))), (aT, .inr (8, [.ref aTp, .ref aTt, .ref aTx, .ref aTy, .ref aE, .int (iI ld)])), (aO, .inl (gl.1, 1, .inr (.inl (vp_updL lo (iI 0).toNatClampNeg (zL v_1)))))] H := hP
      have hD : va_D A [(aR, .inr (10, [.ref aG, .ref aP, .ref aH, .ref aY, .ref aT, .ref aS, .ref aF, .ref aX, .int (iI pr), .int (iI tk), .int (iI tol), .int (iI (hou + hrs))])), (aG, .inr (3, [.ref aGn, .ref aGw, .ref aGs, .int (iI kn)])), (aGn, .inl (gI g, 200, .inl (ar nd))), (aGw, .inl (gI g, 200, .inl (ar wk))), (aGs, .inl (gI g, 200, .inl (ar (sinkF kn sk ld (hrs * (mx 0 (gt0 kn nd ld - pr) * gt0 kn wk ld / 50)))))), (aT, .inr (8, [.ref aTp, .ref aTt, .ref aTx, .ref aTy, .ref aE, .int (iI ld)])), (aO, .inl (gl.1, 1, .inr (.inl (vp_updL lo (iI 0).toNatClampNeg (zL v_1)))))] := hD
      refine lv_goto (tgt := 18) hx hb dL_stop_9 (by decide) ?_
      refine x_iconst hx hb dL_stop_18 ?_
      have q_8 : (if soT hou hrs = 0 then (hou + hrs) else hou) = (hou + hrs) := by
        first
        | (
           first | rfl | (rw [if_pos (by omega)]) | (rw [if_neg (by omega)]) | (rw [if_pos (by omega)]; subst_vars; rfl))
        | fail "q9"
      have q_9 : (if soT hou hrs = 0 then (sinkF kn sk ld (hrs * (mx 0 (gt0 kn nd ld - pr) * gt0 kn wk ld / 50))) else sk) = (sinkF kn sk ld (hrs * (mx 0 (gt0 kn nd ld - pr) * gt0 kn wk ld / 50))) := by
        first
        | (
           first | rfl | (rw [if_pos (by omega)]) | (rw [if_neg (by omega)]) | (rw [if_pos (by omega)]; subst_vars; rfl))
        | fail "q9"
      have hw_10 := (congr (congrArg (fun (z0 : Int) (z1 : Int → Int) => ([(aR, .inr (10, [.ref aG, .ref aP, .ref aH, .ref aY, .ref aT, .ref aS, .ref aF, .ref aX, .int (iI pr), .int (iI tk), .int (iI tol), .int (iI z0)])), (aG, .inr (3, [.ref aGn, .ref aGw, .ref aGs, .int (iI kn)])), (aGn, .inl (gI g, 200, .inl (ar nd))), (aGw, .inl (gI g, 200, .inl (ar wk))), (aGs, .inl (gI g, 200, .inl (ar z1))), (aT, .inr (8, [.ref aTp, .ref aTt, .ref aTx, .ref aTy, .ref aE, .int (iI ld)])), (aO, .inl (gl.1, 1, .inr (.inl (vp_updL lo (iI 0).toNatClampNeg (zL v_1)))))] : va_W)) q_8.symm) q_9.symm)
      rw [hQ9]
      exact x_iret hx hb hr hlocks hP hD hS (S := (Nat → Int64)) rfl dL_stop_19 (vp_updL lo (iI 0).toNatClampNeg (zL v_1)) (by
          first
          | (
             first | omega | (subst_vars; omega))
          | fail "q9") (by
          first
          | (
             intro h0
             first | (exfalso; omega) | ((try dsimp only); rw [zl_up]; subst_vars; rfl) | ((try dsimp only); rw [zl_up]; congr 1))
          | fail "q9") hw_10 (Nat.le_of_ble_eq_true rfl) (Nat.le_of_ble_eq_true rfl)
  rw [hH, hlo, hQ9] at goal_
  exact goal_

set_option maxHeartbeats 4000000 in
set_option maxRecDepth 100000 in
theorem c_L_positionOf (l : Launch) (hflags : l.stackTraces = false) (g : xg) (gl : ClassId × ClassId) (sz : Nat) (aR aG aP aH aY aT aS aF aX aTp aTt aTx aTy aE aO : Nat) (pr tk tol hou ld rg : Int) (tp : Int → Int) (lo : Nat → Int64) (hld : 0 ≤ ld ∧ ld ≤ 200) (hb_tp : bnd tp 0 7) (hr_rg : iR rg) : Met l yL_positionOf wsL_positionOf { frames := 8, cells := 1, slots := 6, locals := 134 } (va_Pc [.ref aR, .int (iI rg), .ref aO] (xBL g gl [(aR, .inr (10, [.ref aG, .ref aP, .ref aH, .ref aY, .ref aT, .ref aS, .ref aF, .ref aX, .int (iI pr), .int (iI tk), .int (iI tol), .int (iI hou)])), (aT, .inr (8, [.ref aTp, .ref aTt, .ref aTx, .ref aTy, .ref aE, .int (iI ld)])), (aTp, .inl (gI g, 200, .inl (ar tp))), (aO, .inl (gl.1, 1, .inr (.inl lo)))] sz)) (va_Qi (fun r u => r = iI ((fun (u : (Nat → Int64)) => rgT ld rg) u) ∧ (fun (u : (Nat → Int64)) => (rgT ld rg = 0 → u 0 = zL (gt0 ld tp rg))) u) (fun u t => xE g (va_A [(aR, .inr (10, [.ref aG, .ref aP, .ref aH, .ref aY, .ref aT, .ref aS, .ref aF, .ref aX, .int (iI pr), .int (iI tk), .int (iI tol), .int (iI hou)])), (aT, .inr (8, [.ref aTp, .ref aTt, .ref aTx, .ref aTy, .ref aE, .int (iI ld)])), (aTp, .inl (gI g, 200, .inl (ar tp))), (aO, .inl (gl.1, 1, .inr (.inl lo)))] sz) ((fun (u : (Nat → Int64)) => [(aR, .inr (10, [.ref aG, .ref aP, .ref aH, .ref aY, .ref aT, .ref aS, .ref aF, .ref aX, .int (iI pr), .int (iI tk), .int (iI tol), .int (iI hou)])), (aT, .inr (8, [.ref aTp, .ref aTt, .ref aTx, .ref aTy, .ref aE, .int (iI ld)])), (aTp, .inl (gI g, 200, .inl (ar tp))), (aO, .inl (gl.1, 1, .inr (.inl u)))]) u) t) (va_A [(aR, .inr (10, [.ref aG, .ref aP, .ref aH, .ref aY, .ref aT, .ref aS, .ref aF, .ref aX, .int (iI pr), .int (iI tk), .int (iI tol), .int (iI hou)])), (aT, .inr (8, [.ref aTp, .ref aTt, .ref aTx, .ref aTy, .ref aE, .int (iI ld)])), (aTp, .inl (gI g, 200, .inl (ar tp))), (aO, .inl (gl.1, 1, .inr (.inl lo)))] sz)) 1 6 (va_A [(aR, .inr (10, [.ref aG, .ref aP, .ref aH, .ref aY, .ref aT, .ref aS, .ref aF, .ref aX, .int (iI pr), .int (iI tk), .int (iI tol), .int (iI hou)])), (aT, .inr (8, [.ref aTp, .ref aTt, .ref aTx, .ref aTy, .ref aE, .int (iI ld)])), (aTp, .inl (gI g, 200, .inl (ar tp))), (aO, .inl (gl.1, 1, .inr (.inl lo)))] sz) := by
  refine x_enterH (y := yL_positionOf) (ws := wsL_positionOf) (g := g) (sz := sz) (av := [.ref aR, .int (iI rg), .ref aO]) (WS := [(aR, .inr (10, [.ref aG, .ref aP, .ref aH, .ref aY, .ref aT, .ref aS, .ref aF, .ref aX, .int (iI pr), .int (iI tk), .int (iI tol), .int (iI hou)])), (aT, .inr (8, [.ref aTp, .ref aTt, .ref aTx, .ref aTy, .ref aE, .int (iI ld)])), (aTp, .inl (gI g, 200, .inl (ar tp))), (aO, .inl (gl.1, 1, .inr (.inl lo)))]) (cc := cL_positionOf) (maxL := 4) (ret := some .int) (Qc := (fun A => (va_Qi (fun r u => r = iI ((fun (u : (Nat → Int64)) => rgT ld rg) u) ∧ (fun (u : (Nat → Int64)) => (rgT ld rg = 0 → u 0 = zL (gt0 ld tp rg))) u) (fun u t => xE g A ((fun (u : (Nat → Int64)) => [(aR, .inr (10, [.ref aG, .ref aP, .ref aH, .ref aY, .ref aT, .ref aS, .ref aF, .ref aX, .int (iI pr), .int (iI tk), .int (iI tol), .int (iI hou)])), (aT, .inr (8, [.ref aTp, .ref aTt, .ref aTx, .ref aTy, .ref aE, .int (iI ld)])), (aTp, .inl (gI g, 200, .inl (ar tp))), (aO, .inl (gl.1, 1, .inr (.inl u)))]) u) t) A))) (by decide) rfl (Nat.le_of_ble_eq_true rfl) ?_
  intro p e s m args below meth c A ls hx hb hr hml hown hts hlocks htab hL hC hP hD hS hA hl
  have hK := hC.1
  have hown : s.vm.findClass RL = some m.cls := hown
  have hl : lv_has ls 4 [(0, .ref aR), (1, .int (iI rg)), (2, .ref aO)] := hl
  obtain ⟨H, hH⟩ : ∃ z, z = s.heap := ⟨_, rfl⟩
  obtain ⟨locs, hlo⟩ : ∃ z : List Loc, z = [] := ⟨_, rfl⟩
  obtain ⟨Q9, hQ9⟩ : ∃ z, z = MQ below (va_Qi (fun r u => r = iI ((fun (u : (Nat → Int64)) => rgT ld rg) u) ∧ (fun (u : (Nat → Int64)) => (rgT ld rg = 0 → u 0 = zL (gt0 ld tp rg))) u) (fun u t => xE g A ((fun (u : (Nat → Int64)) => [(aR, .inr (10, [.ref aG, .ref aP, .ref aH, .ref aY, .ref aT, .ref aS, .ref aF, .ref aX, .int (iI pr), .int (iI tk), .int (iI tol), .int (iI hou)])), (aT, .inr (8, [.ref aTp, .ref aTt, .ref aTx, .ref aTy, .ref aE, .int (iI ld)])), (aTp, .inl (gI g, 200, .inl (ar tp))), (aO, .inl (gl.1, 1, .inr (.inl u)))]) u) t) A) args s 1 6 A := ⟨_, rfl⟩
  have hP : va_P (gD g) vwCl [(aR, .inr (10, [.ref aG, .ref aP, .ref aH, .ref aY, .ref aT, .ref aS, .ref aF, .ref aX, .int (iI pr), .int (iI tk), .int (iI tol), .int (iI hou)])), (aT, .inr (8, [.ref aTp, .ref aTt, .ref aTx, .ref aTy, .ref aE, .int (iI ld)])), (aTp, .inl (gI g, 200, .inl (ar tp))), (aO, .inl (gl.1, 1, .inr (.inl lo)))] H := by rw [hH]; exact hP
  have hS : va_S A s.heap H locs := by rw [hH, hlo]; exact hS
  have goal_ : W p l e { frames := 8, cells := 1, slots := 6, locals := 134 } s m args below meth c H locs 0 0 Q9 (F0 m 0 ls []) := by
    clear hH hlo
    refine lv_aload_n hx hb dL_positionOf_0 rfl (lv_at hl 2 rfl) ?_
    refine x_iconst hx hb dL_positionOf_1 ?_
    refine lv_aload_n hx hb dL_positionOf_2 rfl (lv_at hl 0 rfl) ?_
    refine lv_iload_n hx hb dL_positionOf_3 rfl (lv_at hl 1 rfl) ?_
    refine x_calliX (S := Unit) (SX := Unit) (wc := [(aR, .inr (10, [.ref aG, .ref aP, .ref aH, .ref aY, .ref aT, .ref aS, .ref aF, .ref aX, .int (iI pr), .int (iI tk), .int (iI tol), .int (iI hou)])), (aT, .inr (8, [.ref aTp, .ref aTt, .ref aTx, .ref aTy, .ref aE, .int (iI ld)])), (aTp, .inl (gI g, 200, .inl (ar tp)))]) (wr := [(aO, .inl (gl.1, 1, .inr (.inl lo)))]) hC hP hD hS hA [0, 1, 2] [3] [1, 2, 3, 0] rfl rfl (fun hpre => vx_runV (As := [.int (iI rg)]) (rest := [.int (iI 0), .ref aO]) ⟨hx, hb, hml, hown, hts⟩ (c_X8_positionOf l hflags g H.size aR aG aP aH aY aT aS aF aX aTp aTt aTx aTy aE pr tk tol hou ld rg tp (by first | (first | assumption | omega | exact bnd_up (by assumption) (by omega) (by omega)) | fail "q8") (by first | (first | assumption | omega | exact bnd_up (by assumption) (by omega) (by omega)) | fail "q8") (by first | (first | assumption | omega | exact bnd_up (by assumption) (by omega) (by omega)) | fail "q8")) (cwV 1 hts gL_positionOf_X8_positionOf rfl rfl rfl (by decide +kernel) ⟨Nat.le_of_ble_eq_true rfl, Nat.le_of_ble_eq_true rfl⟩) ⟨xB_blind, va_recv hK hP (ci := 10) (q0 := 0) rfl rfl, hpre _⟩ rfl rfl hl.1 rfl (lv_room (Nat.le_of_ble_eq_true rfl)) dL_positionOf_4 ⟨Nat.le_of_ble_eq_true rfl, Nat.le_of_ble_eq_true rfl⟩) (fun (u : Unit) => [(aR, .inr (10, [.ref aG, .ref aP, .ref aH, .ref aY, .ref aT, .ref aS, .ref aF, .ref aX, .int (iI pr), .int (iI tk), .int (iI tol), .int (iI hou)])), (aT, .inr (8, [.ref aTp, .ref aTt, .ref aTx, .ref aTy, .ref aE, .int (iI ld)])), (aTp, .inl (gI g, 200, .inl (ar tp))), (aO, .inl (gl.1, 1, .inr (.inl lo)))]) (fun (u : Unit) => ([(aR, .inr (10, [.ref aG, .ref aP, .ref aH, .ref aY, .ref aT, .ref aS, .ref aF, .ref aX, .int (iI pr), .int (iI tk), .int (iI tol), .int (iI hou)])), (aT, .inr (8, [.ref aTp, .ref aTt, .ref aTx, .ref aTy, .ref aE, .int (iI ld)])), (aTp, .inl (gI g, 200, .inl (ar tp))), (aO, .inl (gl.1, 1, .inr (.inl lo)))] : va_W)) rfl rfl (by decide) (fun _ => rfl) (fun _ => rfl) rfl (fun E ce q9 u H locs hXP hPX hP hD hS hcell hv9 hcl => ?_) (fun u v_1 H locs hv_1 pv_1 hP hD hS => ?_)
    · skip
      have hP : va_P (gD g) vwCl [(aR, .inr (10, [.ref aG, .ref aP, .ref aH, .ref aY, .ref aT, .ref aS, .ref aF, .ref aX, .int (iI pr), .int (iI tk), .int (iI tol), .int (iI hou)])), (aT, .inr (8, [.ref aTp, .ref aTt, .ref aTx, .ref aTy, .ref aE, .int (iI ld)])), (aTp, .inl (gI g, 200, .inl (ar tp))), (aO, .inl (gl.1, 1, .inr (.inl lo)))] H := hP
      have hD : va_D A [(aR, .inr (10, [.ref aG, .ref aP, .ref aH, .ref aY, .ref aT, .ref aS, .ref aF, .ref aX, .int (iI pr), .int (iI tk), .int (iI tol), .int (iI hou)])), (aT, .inr (8, [.ref aTp, .ref aTt, .ref aTx, .ref aTy, .ref aE, .int (iI ld)])), (aTp, .inl (gI g, 200, .inl (ar tp))), (aO, .inl (gl.1, 1, .inr (.inl lo)))] := hD
      obtain ⟨hE, hp⟩ := hPX
      have hp : rgT ld rg = 1 := hp
      subst hE
      refine vx_catch (E := "java/lang/IndexOutOfBoundsException") (name := "java/lang/IndexOutOfBoundsException") hown [] ⟨0, 9, 12, 24⟩ [] (by rw [htab]; rfl) (fun z hz => by cases hz) (by decide) (by decide) (hts (.classLink RL 24 "java/lang/IndexOutOfBoundsException") (List.mem_of_getElem? (i := 1) rfl)) (va_Nw.use rfl (hC.2.2.2.2.2.2.2.2.2.2.1 "java/lang/IndexOutOfBoundsException" (List.mem_of_getElem? (i := 2) rfl))) hcell hv9 hcl ?_
      refine lv_astore_n (lv' := [(3, .ref q9), (0, .ref aR), (1, .int (iI rg)), (2, .ref aO)]) hx hb dL_positionOf_12 rfl hl (by decide) rfl (fun ls hl => ?_)
      refine x_iconst hx hb dL_positionOf_13 ?_
      rw [hQ9]
      exact x_iret hx hb hr hlocks hP hD hS (S := (Nat → Int64)) rfl dL_positionOf_14 lo (by
          first
          | (
             first | omega | (subst_vars; omega))
          | fail "q9") (by
          first
          | (
             intro h0
             first | (exfalso; omega) | ((try dsimp only); rw [zl_up]; subst_vars; rfl) | ((try dsimp only); rw [zl_up]; congr 1))
          | fail "q9") rfl (Nat.le_of_ble_eq_true rfl) (Nat.le_of_ble_eq_true rfl)
    · skip
      have hP : va_P (gD g) vwCl [(aR, .inr (10, [.ref aG, .ref aP, .ref aH, .ref aY, .ref aT, .ref aS, .ref aF, .ref aX, .int (iI pr), .int (iI tk), .int (iI tol), .int (iI hou)])), (aT, .inr (8, [.ref aTp, .ref aTt, .ref aTx, .ref aTy, .ref aE, .int (iI ld)])), (aTp, .inl (gI g, 200, .inl (ar tp))), (aO, .inl (gl.1, 1, .inr (.inl lo)))] H := hP
      have hD : va_D A [(aR, .inr (10, [.ref aG, .ref aP, .ref aH, .ref aY, .ref aT, .ref aS, .ref aF, .ref aX, .int (iI pr), .int (iI tk), .int (iI tol), .int (iI hou)])), (aT, .inr (8, [.ref aTp, .ref aTt, .ref aTx, .ref aTy, .ref aE, .int (iI ld)])), (aTp, .inl (gI g, 200, .inl (ar tp))), (aO, .inl (gl.1, 1, .inr (.inl lo)))] := hD
      have hv_1 : v_1 = gt0 ld tp rg := hv_1
      obtain ⟨tv_1, pv_1⟩ := pv_1
      have tv_1 : rgT ld rg = 0 := tv_1
      refine x_i2z hx hb dL_positionOf_7 ?_
      refine va_last hx hb hL.1 hP hD hS 3 0 rfl rfl zl_in dL_positionOf_8 (fun H locs hP hD hS => ?_)
      have hP : va_P (gD g) vwCl [(aR, .inr (10, [.ref aG, .ref aP, .ref aH, .ref aY, .ref aT, .ref aS, .ref aF, .ref aX, .int (iI pr), .int (iI tk), .int (iI tol), .int (iI hou)])), (aT, .inr (8, [.ref aTp, .ref aTt, .ref aTx, .ref aTy, .ref aE, .int (iI ld)])), (aTp, .inl (gI g, 200, .inl (ar tp))), (aO, .inl (gl.1, 1, .inr (.inl (vp_updL lo (iI 0).toNatClampNeg (zL v_1)))))] H := hP
      have hD : va_D A [(aR, .inr (10, [.ref aG, .ref aP, .ref aH, .ref aY, .ref aT, .ref aS, .ref aF, .ref aX, .int (iI pr), .int (iI tk), .int (iI tol), .int (iI hou)])), (aT, .inr (8, [.ref aTp, .ref aTt, .ref aTx, .ref aTy, .ref aE, .int (iI ld)])), (aTp, .inl (gI g, 200, .inl (ar tp))), (aO, .inl (gl.1, 1, .inr (.inl (vp_updL lo (iI 0).toNatClampNeg (zL v_1)))))] := hD
      refine lv_goto (tgt := 15) hx hb dL_positionOf_9 (by decide) ?_
      refine x_iconst hx hb dL_positionOf_15 ?_
      rw [hQ9]
      exact x_iret hx hb hr hlocks hP hD hS (S := (Nat → Int64)) rfl dL_positionOf_16 (vp_updL lo (iI 0).toNatClampNeg (zL v_1)) (by
          first
          | (
             first | omega | (subst_vars; omega))
          | fail "q9") (by
          first
          | (
             intro h0
             first | (exfalso; omega) | ((try dsimp only); rw [zl_up]; subst_vars; rfl) | ((try dsimp only); rw [zl_up]; congr 1))
          | fail "q9") rfl (Nat.le_of_ble_eq_true rfl) (Nat.le_of_ble_eq_true rfl)
  rw [hH, hlo, hQ9] at goal_
  exact goal_

set_option maxHeartbeats 4000000 in
set_option maxRecDepth 100000 in
theorem c_L_taperOf (l : Launch) (hflags : l.stackTraces = false) (g : xg) (gl : ClassId × ClassId) (sz : Nat) (aR aG aP aH aY aT aS aF aX aTp aTt aTx aTy aE aO : Nat) (pr tk tol hou ld rg : Int) (tt : Int → Int) (lo : Nat → Int64) (hld : 0 ≤ ld ∧ ld ≤ 200) (hb_tt : bnd tt 0 9) (hr_rg : iR rg) : Met l yL_taperOf wsL_taperOf { frames := 8, cells := 1, slots := 6, locals := 134 } (va_Pc [.ref aR, .int (iI rg), .ref aO] (xBL g gl [(aR, .inr (10, [.ref aG, .ref aP, .ref aH, .ref aY, .ref aT, .ref aS, .ref aF, .ref aX, .int (iI pr), .int (iI tk), .int (iI tol), .int (iI hou)])), (aT, .inr (8, [.ref aTp, .ref aTt, .ref aTx, .ref aTy, .ref aE, .int (iI ld)])), (aTt, .inl (gI g, 200, .inl (ar tt))), (aO, .inl (gl.1, 1, .inr (.inl lo)))] sz)) (va_Qi (fun r u => r = iI ((fun (u : (Nat → Int64)) => rgT ld rg) u) ∧ (fun (u : (Nat → Int64)) => (rgT ld rg = 0 → u 0 = zL (gt0 ld tt rg))) u) (fun u t => xE g (va_A [(aR, .inr (10, [.ref aG, .ref aP, .ref aH, .ref aY, .ref aT, .ref aS, .ref aF, .ref aX, .int (iI pr), .int (iI tk), .int (iI tol), .int (iI hou)])), (aT, .inr (8, [.ref aTp, .ref aTt, .ref aTx, .ref aTy, .ref aE, .int (iI ld)])), (aTt, .inl (gI g, 200, .inl (ar tt))), (aO, .inl (gl.1, 1, .inr (.inl lo)))] sz) ((fun (u : (Nat → Int64)) => [(aR, .inr (10, [.ref aG, .ref aP, .ref aH, .ref aY, .ref aT, .ref aS, .ref aF, .ref aX, .int (iI pr), .int (iI tk), .int (iI tol), .int (iI hou)])), (aT, .inr (8, [.ref aTp, .ref aTt, .ref aTx, .ref aTy, .ref aE, .int (iI ld)])), (aTt, .inl (gI g, 200, .inl (ar tt))), (aO, .inl (gl.1, 1, .inr (.inl u)))]) u) t) (va_A [(aR, .inr (10, [.ref aG, .ref aP, .ref aH, .ref aY, .ref aT, .ref aS, .ref aF, .ref aX, .int (iI pr), .int (iI tk), .int (iI tol), .int (iI hou)])), (aT, .inr (8, [.ref aTp, .ref aTt, .ref aTx, .ref aTy, .ref aE, .int (iI ld)])), (aTt, .inl (gI g, 200, .inl (ar tt))), (aO, .inl (gl.1, 1, .inr (.inl lo)))] sz)) 1 6 (va_A [(aR, .inr (10, [.ref aG, .ref aP, .ref aH, .ref aY, .ref aT, .ref aS, .ref aF, .ref aX, .int (iI pr), .int (iI tk), .int (iI tol), .int (iI hou)])), (aT, .inr (8, [.ref aTp, .ref aTt, .ref aTx, .ref aTy, .ref aE, .int (iI ld)])), (aTt, .inl (gI g, 200, .inl (ar tt))), (aO, .inl (gl.1, 1, .inr (.inl lo)))] sz) := by
  refine x_enterH (y := yL_taperOf) (ws := wsL_taperOf) (g := g) (sz := sz) (av := [.ref aR, .int (iI rg), .ref aO]) (WS := [(aR, .inr (10, [.ref aG, .ref aP, .ref aH, .ref aY, .ref aT, .ref aS, .ref aF, .ref aX, .int (iI pr), .int (iI tk), .int (iI tol), .int (iI hou)])), (aT, .inr (8, [.ref aTp, .ref aTt, .ref aTx, .ref aTy, .ref aE, .int (iI ld)])), (aTt, .inl (gI g, 200, .inl (ar tt))), (aO, .inl (gl.1, 1, .inr (.inl lo)))]) (cc := cL_taperOf) (maxL := 4) (ret := some .int) (Qc := (fun A => (va_Qi (fun r u => r = iI ((fun (u : (Nat → Int64)) => rgT ld rg) u) ∧ (fun (u : (Nat → Int64)) => (rgT ld rg = 0 → u 0 = zL (gt0 ld tt rg))) u) (fun u t => xE g A ((fun (u : (Nat → Int64)) => [(aR, .inr (10, [.ref aG, .ref aP, .ref aH, .ref aY, .ref aT, .ref aS, .ref aF, .ref aX, .int (iI pr), .int (iI tk), .int (iI tol), .int (iI hou)])), (aT, .inr (8, [.ref aTp, .ref aTt, .ref aTx, .ref aTy, .ref aE, .int (iI ld)])), (aTt, .inl (gI g, 200, .inl (ar tt))), (aO, .inl (gl.1, 1, .inr (.inl u)))]) u) t) A))) (by decide) rfl (Nat.le_of_ble_eq_true rfl) ?_
  intro p e s m args below meth c A ls hx hb hr hml hown hts hlocks htab hL hC hP hD hS hA hl
  have hK := hC.1
  have hown : s.vm.findClass RL = some m.cls := hown
  have hl : lv_has ls 4 [(0, .ref aR), (1, .int (iI rg)), (2, .ref aO)] := hl
  obtain ⟨H, hH⟩ : ∃ z, z = s.heap := ⟨_, rfl⟩
  obtain ⟨locs, hlo⟩ : ∃ z : List Loc, z = [] := ⟨_, rfl⟩
  obtain ⟨Q9, hQ9⟩ : ∃ z, z = MQ below (va_Qi (fun r u => r = iI ((fun (u : (Nat → Int64)) => rgT ld rg) u) ∧ (fun (u : (Nat → Int64)) => (rgT ld rg = 0 → u 0 = zL (gt0 ld tt rg))) u) (fun u t => xE g A ((fun (u : (Nat → Int64)) => [(aR, .inr (10, [.ref aG, .ref aP, .ref aH, .ref aY, .ref aT, .ref aS, .ref aF, .ref aX, .int (iI pr), .int (iI tk), .int (iI tol), .int (iI hou)])), (aT, .inr (8, [.ref aTp, .ref aTt, .ref aTx, .ref aTy, .ref aE, .int (iI ld)])), (aTt, .inl (gI g, 200, .inl (ar tt))), (aO, .inl (gl.1, 1, .inr (.inl u)))]) u) t) A) args s 1 6 A := ⟨_, rfl⟩
  have hP : va_P (gD g) vwCl [(aR, .inr (10, [.ref aG, .ref aP, .ref aH, .ref aY, .ref aT, .ref aS, .ref aF, .ref aX, .int (iI pr), .int (iI tk), .int (iI tol), .int (iI hou)])), (aT, .inr (8, [.ref aTp, .ref aTt, .ref aTx, .ref aTy, .ref aE, .int (iI ld)])), (aTt, .inl (gI g, 200, .inl (ar tt))), (aO, .inl (gl.1, 1, .inr (.inl lo)))] H := by rw [hH]; exact hP
  have hS : va_S A s.heap H locs := by rw [hH, hlo]; exact hS
  have goal_ : W p l e { frames := 8, cells := 1, slots := 6, locals := 134 } s m args below meth c H locs 0 0 Q9 (F0 m 0 ls []) := by
    clear hH hlo
    refine lv_aload_n hx hb dL_taperOf_0 rfl (lv_at hl 2 rfl) ?_
    refine x_iconst hx hb dL_taperOf_1 ?_
    refine lv_aload_n hx hb dL_taperOf_2 rfl (lv_at hl 0 rfl) ?_
    refine lv_iload_n hx hb dL_taperOf_3 rfl (lv_at hl 1 rfl) ?_
    refine x_calliX (S := Unit) (SX := Unit) (wc := [(aR, .inr (10, [.ref aG, .ref aP, .ref aH, .ref aY, .ref aT, .ref aS, .ref aF, .ref aX, .int (iI pr), .int (iI tk), .int (iI tol), .int (iI hou)])), (aT, .inr (8, [.ref aTp, .ref aTt, .ref aTx, .ref aTy, .ref aE, .int (iI ld)])), (aTt, .inl (gI g, 200, .inl (ar tt)))]) (wr := [(aO, .inl (gl.1, 1, .inr (.inl lo)))]) hC hP hD hS hA [0, 1, 2] [3] [1, 2, 3, 0] rfl rfl (fun hpre => vx_runV (As := [.int (iI rg)]) (rest := [.int (iI 0), .ref aO]) ⟨hx, hb, hml, hown, hts⟩ (c_X8_taperOf l hflags g H.size aR aG aP aH aY aT aS aF aX aTp aTt aTx aTy aE pr tk tol hou ld rg tt (by first | (first | assumption | omega | exact bnd_up (by assumption) (by omega) (by omega)) | fail "q8") (by first | (first | assumption | omega | exact bnd_up (by assumption) (by omega) (by omega)) | fail "q8") (by first | (first | assumption | omega | exact bnd_up (by assumption) (by omega) (by omega)) | fail "q8")) (cwV 1 hts gL_taperOf_X8_taperOf rfl rfl rfl (by decide +kernel) ⟨Nat.le_of_ble_eq_true rfl, Nat.le_of_ble_eq_true rfl⟩) ⟨xB_blind, va_recv hK hP (ci := 10) (q0 := 0) rfl rfl, hpre _⟩ rfl rfl hl.1 rfl (lv_room (Nat.le_of_ble_eq_true rfl)) dL_taperOf_4 ⟨Nat.le_of_ble_eq_true rfl, Nat.le_of_ble_eq_true rfl⟩) (fun (u : Unit) => [(aR, .inr (10, [.ref aG, .ref aP, .ref aH, .ref aY, .ref aT, .ref aS, .ref aF, .ref aX, .int (iI pr), .int (iI tk), .int (iI tol), .int (iI hou)])), (aT, .inr (8, [.ref aTp, .ref aTt, .ref aTx, .ref aTy, .ref aE, .int (iI ld)])), (aTt, .inl (gI g, 200, .inl (ar tt))), (aO, .inl (gl.1, 1, .inr (.inl lo)))]) (fun (u : Unit) => ([(aR, .inr (10, [.ref aG, .ref aP, .ref aH, .ref aY, .ref aT, .ref aS, .ref aF, .ref aX, .int (iI pr), .int (iI tk), .int (iI tol), .int (iI hou)])), (aT, .inr (8, [.ref aTp, .ref aTt, .ref aTx, .ref aTy, .ref aE, .int (iI ld)])), (aTt, .inl (gI g, 200, .inl (ar tt))), (aO, .inl (gl.1, 1, .inr (.inl lo)))] : va_W)) rfl rfl (by decide) (fun _ => rfl) (fun _ => rfl) rfl (fun E ce q9 u H locs hXP hPX hP hD hS hcell hv9 hcl => ?_) (fun u v_1 H locs hv_1 pv_1 hP hD hS => ?_)
    · skip
      have hP : va_P (gD g) vwCl [(aR, .inr (10, [.ref aG, .ref aP, .ref aH, .ref aY, .ref aT, .ref aS, .ref aF, .ref aX, .int (iI pr), .int (iI tk), .int (iI tol), .int (iI hou)])), (aT, .inr (8, [.ref aTp, .ref aTt, .ref aTx, .ref aTy, .ref aE, .int (iI ld)])), (aTt, .inl (gI g, 200, .inl (ar tt))), (aO, .inl (gl.1, 1, .inr (.inl lo)))] H := hP
      have hD : va_D A [(aR, .inr (10, [.ref aG, .ref aP, .ref aH, .ref aY, .ref aT, .ref aS, .ref aF, .ref aX, .int (iI pr), .int (iI tk), .int (iI tol), .int (iI hou)])), (aT, .inr (8, [.ref aTp, .ref aTt, .ref aTx, .ref aTy, .ref aE, .int (iI ld)])), (aTt, .inl (gI g, 200, .inl (ar tt))), (aO, .inl (gl.1, 1, .inr (.inl lo)))] := hD
      obtain ⟨hE, hp⟩ := hPX
      have hp : rgT ld rg = 1 := hp
      subst hE
      refine vx_catch (E := "java/lang/IndexOutOfBoundsException") (name := "java/lang/IndexOutOfBoundsException") hown [] ⟨0, 9, 12, 24⟩ [] (by rw [htab]; rfl) (fun z hz => by cases hz) (by decide) (by decide) (hts (.classLink RL 24 "java/lang/IndexOutOfBoundsException") (List.mem_of_getElem? (i := 1) rfl)) (va_Nw.use rfl (hC.2.2.2.2.2.2.2.2.2.2.1 "java/lang/IndexOutOfBoundsException" (List.mem_of_getElem? (i := 2) rfl))) hcell hv9 hcl ?_
      refine lv_astore_n (lv' := [(3, .ref q9), (0, .ref aR), (1, .int (iI rg)), (2, .ref aO)]) hx hb dL_taperOf_12 rfl hl (by decide) rfl (fun ls hl => ?_)
      refine x_iconst hx hb dL_taperOf_13 ?_
      rw [hQ9]
      exact x_iret hx hb hr hlocks hP hD hS (S := (Nat → Int64)) rfl dL_taperOf_14 lo (by
          first
          | (
             first | omega | (subst_vars; omega))
          | fail "q9") (by
          first
          | (
             intro h0
             first | (exfalso; omega) | ((try dsimp only); rw [zl_up]; subst_vars; rfl) | ((try dsimp only); rw [zl_up]; congr 1))
          | fail "q9") rfl (Nat.le_of_ble_eq_true rfl) (Nat.le_of_ble_eq_true rfl)
    · skip
      have hP : va_P (gD g) vwCl [(aR, .inr (10, [.ref aG, .ref aP, .ref aH, .ref aY, .ref aT, .ref aS, .ref aF, .ref aX, .int (iI pr), .int (iI tk), .int (iI tol), .int (iI hou)])), (aT, .inr (8, [.ref aTp, .ref aTt, .ref aTx, .ref aTy, .ref aE, .int (iI ld)])), (aTt, .inl (gI g, 200, .inl (ar tt))), (aO, .inl (gl.1, 1, .inr (.inl lo)))] H := hP
      have hD : va_D A [(aR, .inr (10, [.ref aG, .ref aP, .ref aH, .ref aY, .ref aT, .ref aS, .ref aF, .ref aX, .int (iI pr), .int (iI tk), .int (iI tol), .int (iI hou)])), (aT, .inr (8, [.ref aTp, .ref aTt, .ref aTx, .ref aTy, .ref aE, .int (iI ld)])), (aTt, .inl (gI g, 200, .inl (ar tt))), (aO, .inl (gl.1, 1, .inr (.inl lo)))] := hD
      have hv_1 : v_1 = gt0 ld tt rg := hv_1
      obtain ⟨tv_1, pv_1⟩ := pv_1
      have tv_1 : rgT ld rg = 0 := tv_1
      refine x_i2z hx hb dL_taperOf_7 ?_
      refine va_last hx hb hL.1 hP hD hS 3 0 rfl rfl zl_in dL_taperOf_8 (fun H locs hP hD hS => ?_)
      have hP : va_P (gD g) vwCl [(aR, .inr (10, [.ref aG, .ref aP, .ref aH, .ref aY, .ref aT, .ref aS, .ref aF, .ref aX, .int (iI pr), .int (iI tk), .int (iI tol), .int (iI hou)])), (aT, .inr (8, [.ref aTp, .ref aTt, .ref aTx, .ref aTy, .ref aE, .int (iI ld)])), (aTt, .inl (gI g, 200, .inl (ar tt))), (aO, .inl (gl.1, 1, .inr (.inl (vp_updL lo (iI 0).toNatClampNeg (zL v_1)))))] H := hP
      have hD : va_D A [(aR, .inr (10, [.ref aG, .ref aP, .ref aH, .ref aY, .ref aT, .ref aS, .ref aF, .ref aX, .int (iI pr), .int (iI tk), .int (iI tol), .int (iI hou)])), (aT, .inr (8, [.ref aTp, .ref aTt, .ref aTx, .ref aTy, .ref aE, .int (iI ld)])), (aTt, .inl (gI g, 200, .inl (ar tt))), (aO, .inl (gl.1, 1, .inr (.inl (vp_updL lo (iI 0).toNatClampNeg (zL v_1)))))] := hD
      refine lv_goto (tgt := 15) hx hb dL_taperOf_9 (by decide) ?_
      refine x_iconst hx hb dL_taperOf_15 ?_
      rw [hQ9]
      exact x_iret hx hb hr hlocks hP hD hS (S := (Nat → Int64)) rfl dL_taperOf_16 (vp_updL lo (iI 0).toNatClampNeg (zL v_1)) (by
          first
          | (
             first | omega | (subst_vars; omega))
          | fail "q9") (by
          first
          | (
             intro h0
             first | (exfalso; omega) | ((try dsimp only); rw [zl_up]; subst_vars; rfl) | ((try dsimp only); rw [zl_up]; congr 1))
          | fail "q9") rfl (Nat.le_of_ble_eq_true rfl) (Nat.le_of_ble_eq_true rfl)
  rw [hH, hlo, hQ9] at goal_
  exact goal_

set_option maxHeartbeats 4000000 in
set_option maxRecDepth 100000 in
theorem c_L_xAfter (l : Launch) (hflags : l.stackTraces = false) (g : xg) (gl : ClassId × ClassId) (sz : Nat) (aR aG aP aH aY aT aS aF aX aTp aTt aTx aTy aE aO : Nat) (pr tk tol hou ld rg : Int) (kx : Int → Int) (lo : Nat → Int64) (hld : 0 ≤ ld ∧ ld ≤ 200) (hb_kx : bnd kx (-400000) 400000) (hr_rg : iR rg) : Met l yL_xAfter wsL_xAfter { frames := 8, cells := 1, slots := 6, locals := 134 } (va_Pc [.ref aR, .int (iI rg), .ref aO] (xBL g gl [(aR, .inr (10, [.ref aG, .ref aP, .ref aH, .ref aY, .ref aT, .ref aS, .ref aF, .ref aX, .int (iI pr), .int (iI tk), .int (iI tol), .int (iI hou)])), (aT, .inr (8, [.ref aTp, .ref aTt, .ref aTx, .ref aTy, .ref aE, .int (iI ld)])), (aTx, .inl (gI g, 200, .inl (ar kx))), (aO, .inl (gl.1, 1, .inr (.inl lo)))] sz)) (va_Qi (fun r u => r = iI ((fun (u : (Nat → Int64)) => rgT ld rg) u) ∧ (fun (u : (Nat → Int64)) => (rgT ld rg = 0 → u 0 = zL (gt0 ld kx rg))) u) (fun u t => xE g (va_A [(aR, .inr (10, [.ref aG, .ref aP, .ref aH, .ref aY, .ref aT, .ref aS, .ref aF, .ref aX, .int (iI pr), .int (iI tk), .int (iI tol), .int (iI hou)])), (aT, .inr (8, [.ref aTp, .ref aTt, .ref aTx, .ref aTy, .ref aE, .int (iI ld)])), (aTx, .inl (gI g, 200, .inl (ar kx))), (aO, .inl (gl.1, 1, .inr (.inl lo)))] sz) ((fun (u : (Nat → Int64)) => [(aR, .inr (10, [.ref aG, .ref aP, .ref aH, .ref aY, .ref aT, .ref aS, .ref aF, .ref aX, .int (iI pr), .int (iI tk), .int (iI tol), .int (iI hou)])), (aT, .inr (8, [.ref aTp, .ref aTt, .ref aTx, .ref aTy, .ref aE, .int (iI ld)])), (aTx, .inl (gI g, 200, .inl (ar kx))), (aO, .inl (gl.1, 1, .inr (.inl u)))]) u) t) (va_A [(aR, .inr (10, [.ref aG, .ref aP, .ref aH, .ref aY, .ref aT, .ref aS, .ref aF, .ref aX, .int (iI pr), .int (iI tk), .int (iI tol), .int (iI hou)])), (aT, .inr (8, [.ref aTp, .ref aTt, .ref aTx, .ref aTy, .ref aE, .int (iI ld)])), (aTx, .inl (gI g, 200, .inl (ar kx))), (aO, .inl (gl.1, 1, .inr (.inl lo)))] sz)) 1 6 (va_A [(aR, .inr (10, [.ref aG, .ref aP, .ref aH, .ref aY, .ref aT, .ref aS, .ref aF, .ref aX, .int (iI pr), .int (iI tk), .int (iI tol), .int (iI hou)])), (aT, .inr (8, [.ref aTp, .ref aTt, .ref aTx, .ref aTy, .ref aE, .int (iI ld)])), (aTx, .inl (gI g, 200, .inl (ar kx))), (aO, .inl (gl.1, 1, .inr (.inl lo)))] sz) := by
  refine x_enterH (y := yL_xAfter) (ws := wsL_xAfter) (g := g) (sz := sz) (av := [.ref aR, .int (iI rg), .ref aO]) (WS := [(aR, .inr (10, [.ref aG, .ref aP, .ref aH, .ref aY, .ref aT, .ref aS, .ref aF, .ref aX, .int (iI pr), .int (iI tk), .int (iI tol), .int (iI hou)])), (aT, .inr (8, [.ref aTp, .ref aTt, .ref aTx, .ref aTy, .ref aE, .int (iI ld)])), (aTx, .inl (gI g, 200, .inl (ar kx))), (aO, .inl (gl.1, 1, .inr (.inl lo)))]) (cc := cL_xAfter) (maxL := 4) (ret := some .int) (Qc := (fun A => (va_Qi (fun r u => r = iI ((fun (u : (Nat → Int64)) => rgT ld rg) u) ∧ (fun (u : (Nat → Int64)) => (rgT ld rg = 0 → u 0 = zL (gt0 ld kx rg))) u) (fun u t => xE g A ((fun (u : (Nat → Int64)) => [(aR, .inr (10, [.ref aG, .ref aP, .ref aH, .ref aY, .ref aT, .ref aS, .ref aF, .ref aX, .int (iI pr), .int (iI tk), .int (iI tol), .int (iI hou)])), (aT, .inr (8, [.ref aTp, .ref aTt, .ref aTx, .ref aTy, .ref aE, .int (iI ld)])), (aTx, .inl (gI g, 200, .inl (ar kx))), (aO, .inl (gl.1, 1, .inr (.inl u)))]) u) t) A))) (by decide) rfl (Nat.le_of_ble_eq_true rfl) ?_
  intro p e s m args below meth c A ls hx hb hr hml hown hts hlocks htab hL hC hP hD hS hA hl
  have hK := hC.1
  have hown : s.vm.findClass RL = some m.cls := hown
  have hl : lv_has ls 4 [(0, .ref aR), (1, .int (iI rg)), (2, .ref aO)] := hl
  obtain ⟨H, hH⟩ : ∃ z, z = s.heap := ⟨_, rfl⟩
  obtain ⟨locs, hlo⟩ : ∃ z : List Loc, z = [] := ⟨_, rfl⟩
  obtain ⟨Q9, hQ9⟩ : ∃ z, z = MQ below (va_Qi (fun r u => r = iI ((fun (u : (Nat → Int64)) => rgT ld rg) u) ∧ (fun (u : (Nat → Int64)) => (rgT ld rg = 0 → u 0 = zL (gt0 ld kx rg))) u) (fun u t => xE g A ((fun (u : (Nat → Int64)) => [(aR, .inr (10, [.ref aG, .ref aP, .ref aH, .ref aY, .ref aT, .ref aS, .ref aF, .ref aX, .int (iI pr), .int (iI tk), .int (iI tol), .int (iI hou)])), (aT, .inr (8, [.ref aTp, .ref aTt, .ref aTx, .ref aTy, .ref aE, .int (iI ld)])), (aTx, .inl (gI g, 200, .inl (ar kx))), (aO, .inl (gl.1, 1, .inr (.inl u)))]) u) t) A) args s 1 6 A := ⟨_, rfl⟩
  have hP : va_P (gD g) vwCl [(aR, .inr (10, [.ref aG, .ref aP, .ref aH, .ref aY, .ref aT, .ref aS, .ref aF, .ref aX, .int (iI pr), .int (iI tk), .int (iI tol), .int (iI hou)])), (aT, .inr (8, [.ref aTp, .ref aTt, .ref aTx, .ref aTy, .ref aE, .int (iI ld)])), (aTx, .inl (gI g, 200, .inl (ar kx))), (aO, .inl (gl.1, 1, .inr (.inl lo)))] H := by rw [hH]; exact hP
  have hS : va_S A s.heap H locs := by rw [hH, hlo]; exact hS
  have goal_ : W p l e { frames := 8, cells := 1, slots := 6, locals := 134 } s m args below meth c H locs 0 0 Q9 (F0 m 0 ls []) := by
    clear hH hlo
    refine lv_aload_n hx hb dL_xAfter_0 rfl (lv_at hl 2 rfl) ?_
    refine x_iconst hx hb dL_xAfter_1 ?_
    refine lv_aload_n hx hb dL_xAfter_2 rfl (lv_at hl 0 rfl) ?_
    refine lv_iload_n hx hb dL_xAfter_3 rfl (lv_at hl 1 rfl) ?_
    refine x_calliX (S := Unit) (SX := Unit) (wc := [(aR, .inr (10, [.ref aG, .ref aP, .ref aH, .ref aY, .ref aT, .ref aS, .ref aF, .ref aX, .int (iI pr), .int (iI tk), .int (iI tol), .int (iI hou)])), (aT, .inr (8, [.ref aTp, .ref aTt, .ref aTx, .ref aTy, .ref aE, .int (iI ld)])), (aTx, .inl (gI g, 200, .inl (ar kx)))]) (wr := [(aO, .inl (gl.1, 1, .inr (.inl lo)))]) hC hP hD hS hA [0, 1, 2] [3] [1, 2, 3, 0] rfl rfl (fun hpre => vx_runV (As := [.int (iI rg)]) (rest := [.int (iI 0), .ref aO]) ⟨hx, hb, hml, hown, hts⟩ (c_X8_xAfter l hflags g H.size aR aG aP aH aY aT aS aF aX aTp aTt aTx aTy aE pr tk tol hou ld rg kx (by first | (first | assumption | omega | exact bnd_up (by assumption) (by omega) (by omega)) | fail "q8") (by first | (first | assumption | omega | exact bnd_up (by assumption) (by omega) (by omega)) | fail "q8") (by first | (first | assumption | omega | exact bnd_up (by assumption) (by omega) (by omega)) | fail "q8")) (cwV 1 hts gL_xAfter_X8_xAfter rfl rfl rfl (by decide +kernel) ⟨Nat.le_of_ble_eq_true rfl, Nat.le_of_ble_eq_true rfl⟩) ⟨xB_blind, va_recv hK hP (ci := 10) (q0 := 0) rfl rfl, hpre _⟩ rfl rfl hl.1 rfl (lv_room (Nat.le_of_ble_eq_true rfl)) dL_xAfter_4 ⟨Nat.le_of_ble_eq_true rfl, Nat.le_of_ble_eq_true rfl⟩) (fun (u : Unit) => [(aR, .inr (10, [.ref aG, .ref aP, .ref aH, .ref aY, .ref aT, .ref aS, .ref aF, .ref aX, .int (iI pr), .int (iI tk), .int (iI tol), .int (iI hou)])), (aT, .inr (8, [.ref aTp, .ref aTt, .ref aTx, .ref aTy, .ref aE, .int (iI ld)])), (aTx, .inl (gI g, 200, .inl (ar kx))), (aO, .inl (gl.1, 1, .inr (.inl lo)))]) (fun (u : Unit) => ([(aR, .inr (10, [.ref aG, .ref aP, .ref aH, .ref aY, .ref aT, .ref aS, .ref aF, .ref aX, .int (iI pr), .int (iI tk), .int (iI tol), .int (iI hou)])), (aT, .inr (8, [.ref aTp, .ref aTt, .ref aTx, .ref aTy, .ref aE, .int (iI ld)])), (aTx, .inl (gI g, 200, .inl (ar kx))), (aO, .inl (gl.1, 1, .inr (.inl lo)))] : va_W)) rfl rfl (by decide) (fun _ => rfl) (fun _ => rfl) rfl (fun E ce q9 u H locs hXP hPX hP hD hS hcell hv9 hcl => ?_) (fun u v_1 H locs hv_1 pv_1 hP hD hS => ?_)
    · skip
      have hP : va_P (gD g) vwCl [(aR, .inr (10, [.ref aG, .ref aP, .ref aH, .ref aY, .ref aT, .ref aS, .ref aF, .ref aX, .int (iI pr), .int (iI tk), .int (iI tol), .int (iI hou)])), (aT, .inr (8, [.ref aTp, .ref aTt, .ref aTx, .ref aTy, .ref aE, .int (iI ld)])), (aTx, .inl (gI g, 200, .inl (ar kx))), (aO, .inl (gl.1, 1, .inr (.inl lo)))] H := hP
      have hD : va_D A [(aR, .inr (10, [.ref aG, .ref aP, .ref aH, .ref aY, .ref aT, .ref aS, .ref aF, .ref aX, .int (iI pr), .int (iI tk), .int (iI tol), .int (iI hou)])), (aT, .inr (8, [.ref aTp, .ref aTt, .ref aTx, .ref aTy, .ref aE, .int (iI ld)])), (aTx, .inl (gI g, 200, .inl (ar kx))), (aO, .inl (gl.1, 1, .inr (.inl lo)))] := hD
      obtain ⟨hE, hp⟩ := hPX
      have hp : rgT ld rg = 1 := hp
      subst hE
      refine vx_catch (E := "java/lang/IndexOutOfBoundsException") (name := "java/lang/IndexOutOfBoundsException") hown [] ⟨0, 9, 12, 24⟩ [] (by rw [htab]; rfl) (fun z hz => by cases hz) (by decide) (by decide) (hts (.classLink RL 24 "java/lang/IndexOutOfBoundsException") (List.mem_of_getElem? (i := 1) rfl)) (va_Nw.use rfl (hC.2.2.2.2.2.2.2.2.2.2.1 "java/lang/IndexOutOfBoundsException" (List.mem_of_getElem? (i := 2) rfl))) hcell hv9 hcl ?_
      refine lv_astore_n (lv' := [(3, .ref q9), (0, .ref aR), (1, .int (iI rg)), (2, .ref aO)]) hx hb dL_xAfter_12 rfl hl (by decide) rfl (fun ls hl => ?_)
      refine x_iconst hx hb dL_xAfter_13 ?_
      rw [hQ9]
      exact x_iret hx hb hr hlocks hP hD hS (S := (Nat → Int64)) rfl dL_xAfter_14 lo (by
          first
          | (
             first | omega | (subst_vars; omega))
          | fail "q9") (by
          first
          | (
             intro h0
             first | (exfalso; omega) | ((try dsimp only); rw [zl_up]; subst_vars; rfl) | ((try dsimp only); rw [zl_up]; congr 1))
          | fail "q9") rfl (Nat.le_of_ble_eq_true rfl) (Nat.le_of_ble_eq_true rfl)
    · skip
      have hP : va_P (gD g) vwCl [(aR, .inr (10, [.ref aG, .ref aP, .ref aH, .ref aY, .ref aT, .ref aS, .ref aF, .ref aX, .int (iI pr), .int (iI tk), .int (iI tol), .int (iI hou)])), (aT, .inr (8, [.ref aTp, .ref aTt, .ref aTx, .ref aTy, .ref aE, .int (iI ld)])), (aTx, .inl (gI g, 200, .inl (ar kx))), (aO, .inl (gl.1, 1, .inr (.inl lo)))] H := hP
      have hD : va_D A [(aR, .inr (10, [.ref aG, .ref aP, .ref aH, .ref aY, .ref aT, .ref aS, .ref aF, .ref aX, .int (iI pr), .int (iI tk), .int (iI tol), .int (iI hou)])), (aT, .inr (8, [.ref aTp, .ref aTt, .ref aTx, .ref aTy, .ref aE, .int (iI ld)])), (aTx, .inl (gI g, 200, .inl (ar kx))), (aO, .inl (gl.1, 1, .inr (.inl lo)))] := hD
      have hv_1 : v_1 = gt0 ld kx rg := hv_1
      obtain ⟨tv_1, pv_1⟩ := pv_1
      have tv_1 : rgT ld rg = 0 := tv_1
      refine x_i2z hx hb dL_xAfter_7 ?_
      refine va_last hx hb hL.1 hP hD hS 3 0 rfl rfl zl_in dL_xAfter_8 (fun H locs hP hD hS => ?_)
      have hP : va_P (gD g) vwCl [(aR, .inr (10, [.ref aG, .ref aP, .ref aH, .ref aY, .ref aT, .ref aS, .ref aF, .ref aX, .int (iI pr), .int (iI tk), .int (iI tol), .int (iI hou)])), (aT, .inr (8, [.ref aTp, .ref aTt, .ref aTx, .ref aTy, .ref aE, .int (iI ld)])), (aTx, .inl (gI g, 200, .inl (ar kx))), (aO, .inl (gl.1, 1, .inr (.inl (vp_updL lo (iI 0).toNatClampNeg (zL v_1)))))] H := hP
      have hD : va_D A [(aR, .inr (10, [.ref aG, .ref aP, .ref aH, .ref aY, .ref aT, .ref aS, .ref aF, .ref aX, .int (iI pr), .int (iI tk), .int (iI tol), .int (iI hou)])), (aT, .inr (8, [.ref aTp, .ref aTt, .ref aTx, .ref aTy, .ref aE, .int (iI ld)])), (aTx, .inl (gI g, 200, .inl (ar kx))), (aO, .inl (gl.1, 1, .inr (.inl (vp_updL lo (iI 0).toNatClampNeg (zL v_1)))))] := hD
      refine lv_goto (tgt := 15) hx hb dL_xAfter_9 (by decide) ?_
      refine x_iconst hx hb dL_xAfter_15 ?_
      rw [hQ9]
      exact x_iret hx hb hr hlocks hP hD hS (S := (Nat → Int64)) rfl dL_xAfter_16 (vp_updL lo (iI 0).toNatClampNeg (zL v_1)) (by
          first
          | (
             first | omega | (subst_vars; omega))
          | fail "q9") (by
          first
          | (
             intro h0
             first | (exfalso; omega) | ((try dsimp only); rw [zl_up]; subst_vars; rfl) | ((try dsimp only); rw [zl_up]; congr 1))
          | fail "q9") rfl (Nat.le_of_ble_eq_true rfl) (Nat.le_of_ble_eq_true rfl)
  rw [hH, hlo, hQ9] at goal_
  exact goal_

set_option maxHeartbeats 4000000 in
set_option maxRecDepth 100000 in
theorem c_L_yAfter (l : Launch) (hflags : l.stackTraces = false) (g : xg) (gl : ClassId × ClassId) (sz : Nat) (aR aG aP aH aY aT aS aF aX aTp aTt aTx aTy aE aO : Nat) (pr tk tol hou ld rg : Int) (ky : Int → Int) (lo : Nat → Int64) (hld : 0 ≤ ld ∧ ld ≤ 200) (hb_ky : bnd ky (-400000) 400000) (hr_rg : iR rg) : Met l yL_yAfter wsL_yAfter { frames := 8, cells := 1, slots := 6, locals := 134 } (va_Pc [.ref aR, .int (iI rg), .ref aO] (xBL g gl [(aR, .inr (10, [.ref aG, .ref aP, .ref aH, .ref aY, .ref aT, .ref aS, .ref aF, .ref aX, .int (iI pr), .int (iI tk), .int (iI tol), .int (iI hou)])), (aT, .inr (8, [.ref aTp, .ref aTt, .ref aTx, .ref aTy, .ref aE, .int (iI ld)])), (aTy, .inl (gI g, 200, .inl (ar ky))), (aO, .inl (gl.1, 1, .inr (.inl lo)))] sz)) (va_Qi (fun r u => r = iI ((fun (u : (Nat → Int64)) => rgT ld rg) u) ∧ (fun (u : (Nat → Int64)) => (rgT ld rg = 0 → u 0 = zL (gt0 ld ky rg))) u) (fun u t => xE g (va_A [(aR, .inr (10, [.ref aG, .ref aP, .ref aH, .ref aY, .ref aT, .ref aS, .ref aF, .ref aX, .int (iI pr), .int (iI tk), .int (iI tol), .int (iI hou)])), (aT, .inr (8, [.ref aTp, .ref aTt, .ref aTx, .ref aTy, .ref aE, .int (iI ld)])), (aTy, .inl (gI g, 200, .inl (ar ky))), (aO, .inl (gl.1, 1, .inr (.inl lo)))] sz) ((fun (u : (Nat → Int64)) => [(aR, .inr (10, [.ref aG, .ref aP, .ref aH, .ref aY, .ref aT, .ref aS, .ref aF, .ref aX, .int (iI pr), .int (iI tk), .int (iI tol), .int (iI hou)])), (aT, .inr (8, [.ref aTp, .ref aTt, .ref aTx, .ref aTy, .ref aE, .int (iI ld)])), (aTy, .inl (gI g, 200, .inl (ar ky))), (aO, .inl (gl.1, 1, .inr (.inl u)))]) u) t) (va_A [(aR, .inr (10, [.ref aG, .ref aP, .ref aH, .ref aY, .ref aT, .ref aS, .ref aF, .ref aX, .int (iI pr), .int (iI tk), .int (iI tol), .int (iI hou)])), (aT, .inr (8, [.ref aTp, .ref aTt, .ref aTx, .ref aTy, .ref aE, .int (iI ld)])), (aTy, .inl (gI g, 200, .inl (ar ky))), (aO, .inl (gl.1, 1, .inr (.inl lo)))] sz)) 1 6 (va_A [(aR, .inr (10, [.ref aG, .ref aP, .ref aH, .ref aY, .ref aT, .ref aS, .ref aF, .ref aX, .int (iI pr), .int (iI tk), .int (iI tol), .int (iI hou)])), (aT, .inr (8, [.ref aTp, .ref aTt, .ref aTx, .ref aTy, .ref aE, .int (iI ld)])), (aTy, .inl (gI g, 200, .inl (ar ky))), (aO, .inl (gl.1, 1, .inr (.inl lo)))] sz) := by
  refine x_enterH (y := yL_yAfter) (ws := wsL_yAfter) (g := g) (sz := sz) (av := [.ref aR, .int (iI rg), .ref aO]) (WS := [(aR, .inr (10, [.ref aG, .ref aP, .ref aH, .ref aY, .ref aT, .ref aS, .ref aF, .ref aX, .int (iI pr), .int (iI tk), .int (iI tol), .int (iI hou)])), (aT, .inr (8, [.ref aTp, .ref aTt, .ref aTx, .ref aTy, .ref aE, .int (iI ld)])), (aTy, .inl (gI g, 200, .inl (ar ky))), (aO, .inl (gl.1, 1, .inr (.inl lo)))]) (cc := cL_yAfter) (maxL := 4) (ret := some .int) (Qc := (fun A => (va_Qi (fun r u => r = iI ((fun (u : (Nat → Int64)) => rgT ld rg) u) ∧ (fun (u : (Nat → Int64)) => (rgT ld rg = 0 → u 0 = zL (gt0 ld ky rg))) u) (fun u t => xE g A ((fun (u : (Nat → Int64)) => [(aR, .inr (10, [.ref aG, .ref aP, .ref aH, .ref aY, .ref aT, .ref aS, .ref aF, .ref aX, .int (iI pr), .int (iI tk), .int (iI tol), .int (iI hou)])), (aT, .inr (8, [.ref aTp, .ref aTt, .ref aTx, .ref aTy, .ref aE, .int (iI ld)])), (aTy, .inl (gI g, 200, .inl (ar ky))), (aO, .inl (gl.1, 1, .inr (.inl u)))]) u) t) A))) (by decide) rfl (Nat.le_of_ble_eq_true rfl) ?_
  intro p e s m args below meth c A ls hx hb hr hml hown hts hlocks htab hL hC hP hD hS hA hl
  have hK := hC.1
  have hown : s.vm.findClass RL = some m.cls := hown
  have hl : lv_has ls 4 [(0, .ref aR), (1, .int (iI rg)), (2, .ref aO)] := hl
  obtain ⟨H, hH⟩ : ∃ z, z = s.heap := ⟨_, rfl⟩
  obtain ⟨locs, hlo⟩ : ∃ z : List Loc, z = [] := ⟨_, rfl⟩
  obtain ⟨Q9, hQ9⟩ : ∃ z, z = MQ below (va_Qi (fun r u => r = iI ((fun (u : (Nat → Int64)) => rgT ld rg) u) ∧ (fun (u : (Nat → Int64)) => (rgT ld rg = 0 → u 0 = zL (gt0 ld ky rg))) u) (fun u t => xE g A ((fun (u : (Nat → Int64)) => [(aR, .inr (10, [.ref aG, .ref aP, .ref aH, .ref aY, .ref aT, .ref aS, .ref aF, .ref aX, .int (iI pr), .int (iI tk), .int (iI tol), .int (iI hou)])), (aT, .inr (8, [.ref aTp, .ref aTt, .ref aTx, .ref aTy, .ref aE, .int (iI ld)])), (aTy, .inl (gI g, 200, .inl (ar ky))), (aO, .inl (gl.1, 1, .inr (.inl u)))]) u) t) A) args s 1 6 A := ⟨_, rfl⟩
  have hP : va_P (gD g) vwCl [(aR, .inr (10, [.ref aG, .ref aP, .ref aH, .ref aY, .ref aT, .ref aS, .ref aF, .ref aX, .int (iI pr), .int (iI tk), .int (iI tol), .int (iI hou)])), (aT, .inr (8, [.ref aTp, .ref aTt, .ref aTx, .ref aTy, .ref aE, .int (iI ld)])), (aTy, .inl (gI g, 200, .inl (ar ky))), (aO, .inl (gl.1, 1, .inr (.inl lo)))] H := by rw [hH]; exact hP
  have hS : va_S A s.heap H locs := by rw [hH, hlo]; exact hS
  have goal_ : W p l e { frames := 8, cells := 1, slots := 6, locals := 134 } s m args below meth c H locs 0 0 Q9 (F0 m 0 ls []) := by
    clear hH hlo
    refine lv_aload_n hx hb dL_yAfter_0 rfl (lv_at hl 2 rfl) ?_
    refine x_iconst hx hb dL_yAfter_1 ?_
    refine lv_aload_n hx hb dL_yAfter_2 rfl (lv_at hl 0 rfl) ?_
    refine lv_iload_n hx hb dL_yAfter_3 rfl (lv_at hl 1 rfl) ?_
    refine x_calliX (S := Unit) (SX := Unit) (wc := [(aR, .inr (10, [.ref aG, .ref aP, .ref aH, .ref aY, .ref aT, .ref aS, .ref aF, .ref aX, .int (iI pr), .int (iI tk), .int (iI tol), .int (iI hou)])), (aT, .inr (8, [.ref aTp, .ref aTt, .ref aTx, .ref aTy, .ref aE, .int (iI ld)])), (aTy, .inl (gI g, 200, .inl (ar ky)))]) (wr := [(aO, .inl (gl.1, 1, .inr (.inl lo)))]) hC hP hD hS hA [0, 1, 2] [3] [1, 2, 3, 0] rfl rfl (fun hpre => vx_runV (As := [.int (iI rg)]) (rest := [.int (iI 0), .ref aO]) ⟨hx, hb, hml, hown, hts⟩ (c_X8_yAfter l hflags g H.size aR aG aP aH aY aT aS aF aX aTp aTt aTx aTy aE pr tk tol hou ld rg ky (by first | (first | assumption | omega | exact bnd_up (by assumption) (by omega) (by omega)) | fail "q8") (by first | (first | assumption | omega | exact bnd_up (by assumption) (by omega) (by omega)) | fail "q8") (by first | (first | assumption | omega | exact bnd_up (by assumption) (by omega) (by omega)) | fail "q8")) (cwV 1 hts gL_yAfter_X8_yAfter rfl rfl rfl (by decide +kernel) ⟨Nat.le_of_ble_eq_true rfl, Nat.le_of_ble_eq_true rfl⟩) ⟨xB_blind, va_recv hK hP (ci := 10) (q0 := 0) rfl rfl, hpre _⟩ rfl rfl hl.1 rfl (lv_room (Nat.le_of_ble_eq_true rfl)) dL_yAfter_4 ⟨Nat.le_of_ble_eq_true rfl, Nat.le_of_ble_eq_true rfl⟩) (fun (u : Unit) => [(aR, .inr (10, [.ref aG, .ref aP, .ref aH, .ref aY, .ref aT, .ref aS, .ref aF, .ref aX, .int (iI pr), .int (iI tk), .int (iI tol), .int (iI hou)])), (aT, .inr (8, [.ref aTp, .ref aTt, .ref aTx, .ref aTy, .ref aE, .int (iI ld)])), (aTy, .inl (gI g, 200, .inl (ar ky))), (aO, .inl (gl.1, 1, .inr (.inl lo)))]) (fun (u : Unit) => ([(aR, .inr (10, [.ref aG, .ref aP, .ref aH, .ref aY, .ref aT, .ref aS, .ref aF, .ref aX, .int (iI pr), .int (iI tk), .int (iI tol), .int (iI hou)])), (aT, .inr (8, [.ref aTp, .ref aTt, .ref aTx, .ref aTy, .ref aE, .int (iI ld)])), (aTy, .inl (gI g, 200, .inl (ar ky))), (aO, .inl (gl.1, 1, .inr (.inl lo)))] : va_W)) rfl rfl (by decide) (fun _ => rfl) (fun _ => rfl) rfl (fun E ce q9 u H locs hXP hPX hP hD hS hcell hv9 hcl => ?_) (fun u v_1 H locs hv_1 pv_1 hP hD hS => ?_)
    · skip
      have hP : va_P (gD g) vwCl [(aR, .inr (10, [.ref aG, .ref aP, .ref aH, .ref aY, .ref aT, .ref aS, .ref aF, .ref aX, .int (iI pr), .int (iI tk), .int (iI tol), .int (iI hou)])), (aT, .inr (8, [.ref aTp, .ref aTt, .ref aTx, .ref aTy, .ref aE, .int (iI ld)])), (aTy, .inl (gI g, 200, .inl (ar ky))), (aO, .inl (gl.1, 1, .inr (.inl lo)))] H := hP
      have hD : va_D A [(aR, .inr (10, [.ref aG, .ref aP, .ref aH, .ref aY, .ref aT, .ref aS, .ref aF, .ref aX, .int (iI pr), .int (iI tk), .int (iI tol), .int (iI hou)])), (aT, .inr (8, [.ref aTp, .ref aTt, .ref aTx, .ref aTy, .ref aE, .int (iI ld)])), (aTy, .inl (gI g, 200, .inl (ar ky))), (aO, .inl (gl.1, 1, .inr (.inl lo)))] := hD
      obtain ⟨hE, hp⟩ := hPX
      have hp : rgT ld rg = 1 := hp
      subst hE
      refine vx_catch (E := "java/lang/IndexOutOfBoundsException") (name := "java/lang/IndexOutOfBoundsException") hown [] ⟨0, 9, 12, 24⟩ [] (by rw [htab]; rfl) (fun z hz => by cases hz) (by decide) (by decide) (hts (.classLink RL 24 "java/lang/IndexOutOfBoundsException") (List.mem_of_getElem? (i := 1) rfl)) (va_Nw.use rfl (hC.2.2.2.2.2.2.2.2.2.2.1 "java/lang/IndexOutOfBoundsException" (List.mem_of_getElem? (i := 2) rfl))) hcell hv9 hcl ?_
      refine lv_astore_n (lv' := [(3, .ref q9), (0, .ref aR), (1, .int (iI rg)), (2, .ref aO)]) hx hb dL_yAfter_12 rfl hl (by decide) rfl (fun ls hl => ?_)
      refine x_iconst hx hb dL_yAfter_13 ?_
      rw [hQ9]
      exact x_iret hx hb hr hlocks hP hD hS (S := (Nat → Int64)) rfl dL_yAfter_14 lo (by
          first
          | (
             first | omega | (subst_vars; omega))
          | fail "q9") (by
          first
          | (
             intro h0
             first | (exfalso; omega) | ((try dsimp only); rw [zl_up]; subst_vars; rfl) | ((try dsimp only); rw [zl_up]; congr 1))
          | fail "q9") rfl (Nat.le_of_ble_eq_true rfl) (Nat.le_of_ble_eq_true rfl)
    · skip
      have hP : va_P (gD g) vwCl [(aR, .inr (10, [.ref aG, .ref aP, .ref aH, .ref aY, .ref aT, .ref aS, .ref aF, .ref aX, .int (iI pr), .int (iI tk), .int (iI tol), .int (iI hou)])), (aT, .inr (8, [.ref aTp, .ref aTt, .ref aTx, .ref aTy, .ref aE, .int (iI ld)])), (aTy, .inl (gI g, 200, .inl (ar ky))), (aO, .inl (gl.1, 1, .inr (.inl lo)))] H := hP
      have hD : va_D A [(aR, .inr (10, [.ref aG, .ref aP, .ref aH, .ref aY, .ref aT, .ref aS, .ref aF, .ref aX, .int (iI pr), .int (iI tk), .int (iI tol), .int (iI hou)])), (aT, .inr (8, [.ref aTp, .ref aTt, .ref aTx, .ref aTy, .ref aE, .int (iI ld)])), (aTy, .inl (gI g, 200, .inl (ar ky))), (aO, .inl (gl.1, 1, .inr (.inl lo)))] := hD
      have hv_1 : v_1 = gt0 ld ky rg := hv_1
      obtain ⟨tv_1, pv_1⟩ := pv_1
      have tv_1 : rgT ld rg = 0 := tv_1
      refine x_i2z hx hb dL_yAfter_7 ?_
      refine va_last hx hb hL.1 hP hD hS 3 0 rfl rfl zl_in dL_yAfter_8 (fun H locs hP hD hS => ?_)
      have hP : va_P (gD g) vwCl [(aR, .inr (10, [.ref aG, .ref aP, .ref aH, .ref aY, .ref aT, .ref aS, .ref aF, .ref aX, .int (iI pr), .int (iI tk), .int (iI tol), .int (iI hou)])), (aT, .inr (8, [.ref aTp, .ref aTt, .ref aTx, .ref aTy, .ref aE, .int (iI ld)])), (aTy, .inl (gI g, 200, .inl (ar ky))), (aO, .inl (gl.1, 1, .inr (.inl (vp_updL lo (iI 0).toNatClampNeg (zL v_1)))))] H := hP
      have hD : va_D A [(aR, .inr (10, [.ref aG, .ref aP, .ref aH, .ref aY, .ref aT, .ref aS, .ref aF, .ref aX, .int (iI pr), .int (iI tk), .int (iI tol), .int (iI hou)])), (aT, .inr (8, [.ref aTp, .ref aTt, .ref aTx, .ref aTy, .ref aE, .int (iI ld)])), (aTy, .inl (gI g, 200, .inl (ar ky))), (aO, .inl (gl.1, 1, .inr (.inl (vp_updL lo (iI 0).toNatClampNeg (zL v_1)))))] := hD
      refine lv_goto (tgt := 15) hx hb dL_yAfter_9 (by decide) ?_
      refine x_iconst hx hb dL_yAfter_15 ?_
      rw [hQ9]
      exact x_iret hx hb hr hlocks hP hD hS (S := (Nat → Int64)) rfl dL_yAfter_16 (vp_updL lo (iI 0).toNatClampNeg (zL v_1)) (by
          first
          | (
             first | omega | (subst_vars; omega))
          | fail "q9") (by
          first
          | (
             intro h0
             first | (exfalso; omega) | ((try dsimp only); rw [zl_up]; subst_vars; rfl) | ((try dsimp only); rw [zl_up]; congr 1))
          | fail "q9") rfl (Nat.le_of_ble_eq_true rfl) (Nat.le_of_ble_eq_true rfl)
  rw [hH, hlo, hQ9] at goal_
  exact goal_

set_option maxHeartbeats 4000000 in
set_option maxRecDepth 100000 in
theorem c_L_xAnew (l : Launch) (hflags : l.stackTraces = false) (g : xg) (gl : ClassId × ClassId) (sz : Nat) (aR aG aP aH aY aT aS aF aX aTp aTt aTx aTy aE aO : Nat) (pr tk tol hou ld fx fy fhx fhy rg : Int) (tp tt : Int → Int) (lo : Nat → Int64) (hld : 0 ≤ ld ∧ ld ≤ 200) (hb_tp : bnd tp 0 7) (hb_tt : bnd tt 0 9) (hr_rg : iR rg) : Met l yL_xAnew wsL_xAnew { frames := 8, cells := 1, slots := 6, locals := 134 } (va_Pc [.ref aR, .int (iI rg), .ref aO] (xBL g gl [(aR, .inr (10, [.ref aG, .ref aP, .ref aH, .ref aY, .ref aT, .ref aS, .ref aF, .ref aX, .int (iI pr), .int (iI tk), .int (iI tol), .int (iI hou)])), (aT, .inr (8, [.ref aTp, .ref aTt, .ref aTx, .ref aTy, .ref aE, .int (iI ld)])), (aTp, .inl (gI g, 200, .inl (ar tp))), (aTt, .inl (gI g, 200, .inl (ar tt))), (aF, .inr (2, [.int (iI fx), .int (iI fy), .int (iI fhx), .int (iI fhy)])), (aO, .inl (gl.1, 1, .inr (.inl lo)))] sz)) (va_Qi (fun r u => r = iI ((fun (u : Int × Int × Int × Int × (Nat → Int64)) => rgT ld rg) u) ∧ (fun (u : Int × Int × Int × Int × (Nat → Int64)) => (rgT ld rg = 0 → u.2.2.2.2 0 = zL (lnO tt tp toSide (rg + 1)))) u) (fun u t => xE g (va_A [(aR, .inr (10, [.ref aG, .ref aP, .ref aH, .ref aY, .ref aT, .ref aS, .ref aF, .ref aX, .int (iI pr), .int (iI tk), .int (iI tol), .int (iI hou)])), (aT, .inr (8, [.ref aTp, .ref aTt, .ref aTx, .ref aTy, .ref aE, .int (iI ld)])), (aTp, .inl (gI g, 200, .inl (ar tp))), (aTt, .inl (gI g, 200, .inl (ar tt))), (aF, .inr (2, [.int (iI fx), .int (iI fy), .int (iI fhx), .int (iI fhy)])), (aO, .inl (gl.1, 1, .inr (.inl lo)))] sz) ((fun (u : Int × Int × Int × Int × (Nat → Int64)) => [(aR, .inr (10, [.ref aG, .ref aP, .ref aH, .ref aY, .ref aT, .ref aS, .ref aF, .ref aX, .int (iI pr), .int (iI tk), .int (iI tol), .int (iI hou)])), (aT, .inr (8, [.ref aTp, .ref aTt, .ref aTx, .ref aTy, .ref aE, .int (iI ld)])), (aTp, .inl (gI g, 200, .inl (ar tp))), (aTt, .inl (gI g, 200, .inl (ar tt))), (aF, .inr (2, [.int (iI u.1), .int (iI u.2.1), .int (iI u.2.2.1), .int (iI u.2.2.2.1)])), (aO, .inl (gl.1, 1, .inr (.inl u.2.2.2.2)))]) u) t) (va_A [(aR, .inr (10, [.ref aG, .ref aP, .ref aH, .ref aY, .ref aT, .ref aS, .ref aF, .ref aX, .int (iI pr), .int (iI tk), .int (iI tol), .int (iI hou)])), (aT, .inr (8, [.ref aTp, .ref aTt, .ref aTx, .ref aTy, .ref aE, .int (iI ld)])), (aTp, .inl (gI g, 200, .inl (ar tp))), (aTt, .inl (gI g, 200, .inl (ar tt))), (aF, .inr (2, [.int (iI fx), .int (iI fy), .int (iI fhx), .int (iI fhy)])), (aO, .inl (gl.1, 1, .inr (.inl lo)))] sz)) 1 6 (va_A [(aR, .inr (10, [.ref aG, .ref aP, .ref aH, .ref aY, .ref aT, .ref aS, .ref aF, .ref aX, .int (iI pr), .int (iI tk), .int (iI tol), .int (iI hou)])), (aT, .inr (8, [.ref aTp, .ref aTt, .ref aTx, .ref aTy, .ref aE, .int (iI ld)])), (aTp, .inl (gI g, 200, .inl (ar tp))), (aTt, .inl (gI g, 200, .inl (ar tt))), (aF, .inr (2, [.int (iI fx), .int (iI fy), .int (iI fhx), .int (iI fhy)])), (aO, .inl (gl.1, 1, .inr (.inl lo)))] sz) := by
  refine x_enterH (y := yL_xAnew) (ws := wsL_xAnew) (g := g) (sz := sz) (av := [.ref aR, .int (iI rg), .ref aO]) (WS := [(aR, .inr (10, [.ref aG, .ref aP, .ref aH, .ref aY, .ref aT, .ref aS, .ref aF, .ref aX, .int (iI pr), .int (iI tk), .int (iI tol), .int (iI hou)])), (aT, .inr (8, [.ref aTp, .ref aTt, .ref aTx, .ref aTy, .ref aE, .int (iI ld)])), (aTp, .inl (gI g, 200, .inl (ar tp))), (aTt, .inl (gI g, 200, .inl (ar tt))), (aF, .inr (2, [.int (iI fx), .int (iI fy), .int (iI fhx), .int (iI fhy)])), (aO, .inl (gl.1, 1, .inr (.inl lo)))]) (cc := cL_xAnew) (maxL := 4) (ret := some .int) (Qc := (fun A => (va_Qi (fun r u => r = iI ((fun (u : Int × Int × Int × Int × (Nat → Int64)) => rgT ld rg) u) ∧ (fun (u : Int × Int × Int × Int × (Nat → Int64)) => (rgT ld rg = 0 → u.2.2.2.2 0 = zL (lnO tt tp toSide (rg + 1)))) u) (fun u t => xE g A ((fun (u : Int × Int × Int × Int × (Nat → Int64)) => [(aR, .inr (10, [.ref aG, .ref aP, .ref aH, .ref aY, .ref aT, .ref aS, .ref aF, .ref aX, .int (iI pr), .int (iI tk), .int (iI tol), .int (iI hou)])), (aT, .inr (8, [.ref aTp, .ref aTt, .ref aTx, .ref aTy, .ref aE, .int (iI ld)])), (aTp, .inl (gI g, 200, .inl (ar tp))), (aTt, .inl (gI g, 200, .inl (ar tt))), (aF, .inr (2, [.int (iI u.1), .int (iI u.2.1), .int (iI u.2.2.1), .int (iI u.2.2.2.1)])), (aO, .inl (gl.1, 1, .inr (.inl u.2.2.2.2)))]) u) t) A))) (by decide) rfl (Nat.le_of_ble_eq_true rfl) ?_
  intro p e s m args below meth c A ls hx hb hr hml hown hts hlocks htab hL hC hP hD hS hA hl
  have hK := hC.1
  have hown : s.vm.findClass RL = some m.cls := hown
  have hl : lv_has ls 4 [(0, .ref aR), (1, .int (iI rg)), (2, .ref aO)] := hl
  obtain ⟨H, hH⟩ : ∃ z, z = s.heap := ⟨_, rfl⟩
  obtain ⟨locs, hlo⟩ : ∃ z : List Loc, z = [] := ⟨_, rfl⟩
  obtain ⟨Q9, hQ9⟩ : ∃ z, z = MQ below (va_Qi (fun r u => r = iI ((fun (u : Int × Int × Int × Int × (Nat → Int64)) => rgT ld rg) u) ∧ (fun (u : Int × Int × Int × Int × (Nat → Int64)) => (rgT ld rg = 0 → u.2.2.2.2 0 = zL (lnO tt tp toSide (rg + 1)))) u) (fun u t => xE g A ((fun (u : Int × Int × Int × Int × (Nat → Int64)) => [(aR, .inr (10, [.ref aG, .ref aP, .ref aH, .ref aY, .ref aT, .ref aS, .ref aF, .ref aX, .int (iI pr), .int (iI tk), .int (iI tol), .int (iI hou)])), (aT, .inr (8, [.ref aTp, .ref aTt, .ref aTx, .ref aTy, .ref aE, .int (iI ld)])), (aTp, .inl (gI g, 200, .inl (ar tp))), (aTt, .inl (gI g, 200, .inl (ar tt))), (aF, .inr (2, [.int (iI u.1), .int (iI u.2.1), .int (iI u.2.2.1), .int (iI u.2.2.2.1)])), (aO, .inl (gl.1, 1, .inr (.inl u.2.2.2.2)))]) u) t) A) args s 1 6 A := ⟨_, rfl⟩
  have hP : va_P (gD g) vwCl [(aR, .inr (10, [.ref aG, .ref aP, .ref aH, .ref aY, .ref aT, .ref aS, .ref aF, .ref aX, .int (iI pr), .int (iI tk), .int (iI tol), .int (iI hou)])), (aT, .inr (8, [.ref aTp, .ref aTt, .ref aTx, .ref aTy, .ref aE, .int (iI ld)])), (aTp, .inl (gI g, 200, .inl (ar tp))), (aTt, .inl (gI g, 200, .inl (ar tt))), (aF, .inr (2, [.int (iI fx), .int (iI fy), .int (iI fhx), .int (iI fhy)])), (aO, .inl (gl.1, 1, .inr (.inl lo)))] H := by rw [hH]; exact hP
  have hS : va_S A s.heap H locs := by rw [hH, hlo]; exact hS
  have goal_ : W p l e { frames := 8, cells := 1, slots := 6, locals := 134 } s m args below meth c H locs 0 0 Q9 (F0 m 0 ls []) := by
    clear hH hlo
    refine lv_aload_n hx hb dL_xAnew_0 rfl (lv_at hl 2 rfl) ?_
    refine x_iconst hx hb dL_xAnew_1 ?_
    refine lv_aload_n hx hb dL_xAnew_2 rfl (lv_at hl 0 rfl) ?_
    refine lv_iload_n hx hb dL_xAnew_3 rfl (lv_at hl 1 rfl) ?_
    refine x_calliX (S := Int × Int × Int × Int) (SX := Unit) (wc := [(aR, .inr (10, [.ref aG, .ref aP, .ref aH, .ref aY, .ref aT, .ref aS, .ref aF, .ref aX, .int (iI pr), .int (iI tk), .int (iI tol), .int (iI hou)])), (aT, .inr (8, [.ref aTp, .ref aTt, .ref aTx, .ref aTy, .ref aE, .int (iI ld)])), (aTp, .inl (gI g, 200, .inl (ar tp))), (aTt, .inl (gI g, 200, .inl (ar tt))), (aF, .inr (2, [.int (iI fx), .int (iI fy), .int (iI fhx), .int (iI fhy)]))]) (wr := [(aO, .inl (gl.1, 1, .inr (.inl lo)))]) hC hP hD hS hA [0, 1, 2, 3, 4] [5] [1, 2, 3, 4, 5, 0] rfl rfl (fun hpre => vx_runV (As := [.int (iI rg)]) (rest := [.int (iI 0), .ref aO]) ⟨hx, hb, hml, hown, hts⟩ (c_X8_xAnew l hflags g H.size aR aG aP aH aY aT aS aF aX aTp aTt aTx aTy aE pr tk tol hou ld fx fy fhx fhy rg tp tt (by first | (first | assumption | omega | exact bnd_up (by assumption) (by omega) (by omega)) | fail "q8") (by first | (first | assumption | omega | exact bnd_up (by assumption) (by omega) (by omega)) | fail "q8") (by first | (first | assumption | omega | exact bnd_up (by assumption) (by omega) (by omega)) | fail "q8") (by first | (first | assumption | omega | exact bnd_up (by assumption) (by omega) (by omega)) | fail "q8")) (cwV 1 hts gL_xAnew_X8_xAnew rfl rfl rfl (by decide +kernel) ⟨Nat.le_of_ble_eq_true rfl, Nat.le_of_ble_eq_true rfl⟩) ⟨xB_blind, va_recv hK hP (ci := 10) (q0 := 0) rfl rfl, hpre _⟩ rfl rfl hl.1 rfl (lv_room (Nat.le_of_ble_eq_true rfl)) dL_xAnew_4 ⟨Nat.le_of_ble_eq_true rfl, Nat.le_of_ble_eq_true rfl⟩) (fun (u : Int × Int × Int × Int) => [(aR, .inr (10, [.ref aG, .ref aP, .ref aH, .ref aY, .ref aT, .ref aS, .ref aF, .ref aX, .int (iI pr), .int (iI tk), .int (iI tol), .int (iI hou)])), (aT, .inr (8, [.ref aTp, .ref aTt, .ref aTx, .ref aTy, .ref aE, .int (iI ld)])), (aTp, .inl (gI g, 200, .inl (ar tp))), (aTt, .inl (gI g, 200, .inl (ar tt))), (aF, .inr (2, [.int (iI u.1), .int (iI u.2.1), .int (iI u.2.2.1), .int (iI u.2.2.2)])), (aO, .inl (gl.1, 1, .inr (.inl lo)))]) (fun (u : Unit) => ([(aR, .inr (10, [.ref aG, .ref aP, .ref aH, .ref aY, .ref aT, .ref aS, .ref aF, .ref aX, .int (iI pr), .int (iI tk), .int (iI tol), .int (iI hou)])), (aT, .inr (8, [.ref aTp, .ref aTt, .ref aTx, .ref aTy, .ref aE, .int (iI ld)])), (aTp, .inl (gI g, 200, .inl (ar tp))), (aTt, .inl (gI g, 200, .inl (ar tt))), (aF, .inr (2, [.int (iI fx), .int (iI fy), .int (iI fhx), .int (iI fhy)])), (aO, .inl (gl.1, 1, .inr (.inl lo)))] : va_W)) rfl rfl (by decide) (fun _ => rfl) (fun _ => rfl) rfl (fun E ce q9 u H locs hXP hPX hP hD hS hcell hv9 hcl => ?_) (fun u v_5 H locs hv_5 pv_5 hP hD hS => ?_)
    · skip
      have hP : va_P (gD g) vwCl [(aR, .inr (10, [.ref aG, .ref aP, .ref aH, .ref aY, .ref aT, .ref aS, .ref aF, .ref aX, .int (iI pr), .int (iI tk), .int (iI tol), .int (iI hou)])), (aT, .inr (8, [.ref aTp, .ref aTt, .ref aTx, .ref aTy, .ref aE, .int (iI ld)])), (aTp, .inl (gI g, 200, .inl (ar tp))), (aTt, .inl (gI g, 200, .inl (ar tt))), (aF, .inr (2, [.int (iI fx), .int (iI fy), .int (iI fhx), .int (iI fhy)])), (aO, .inl (gl.1, 1, .inr (.inl lo)))] H := hP
      have hD : va_D A [(aR, .inr (10, [.ref aG, .ref aP, .ref aH, .ref aY, .ref aT, .ref aS, .ref aF, .ref aX, .int (iI pr), .int (iI tk), .int (iI tol), .int (iI hou)])), (aT, .inr (8, [.ref aTp, .ref aTt, .ref aTx, .ref aTy, .ref aE, .int (iI ld)])), (aTp, .inl (gI g, 200, .inl (ar tp))), (aTt, .inl (gI g, 200, .inl (ar tt))), (aF, .inr (2, [.int (iI fx), .int (iI fy), .int (iI fhx), .int (iI fhy)])), (aO, .inl (gl.1, 1, .inr (.inl lo)))] := hD
      obtain ⟨hE, hp⟩ := hPX
      have hp : rgT ld rg = 1 := hp
      subst hE
      refine vx_catch (E := "java/lang/IndexOutOfBoundsException") (name := "java/lang/IndexOutOfBoundsException") hown [] ⟨0, 9, 12, 24⟩ [] (by rw [htab]; rfl) (fun z hz => by cases hz) (by decide) (by decide) (hts (.classLink RL 24 "java/lang/IndexOutOfBoundsException") (List.mem_of_getElem? (i := 1) rfl)) (va_Nw.use rfl (hC.2.2.2.2.2.2.2.2.2.2.1 "java/lang/IndexOutOfBoundsException" (List.mem_of_getElem? (i := 2) rfl))) hcell hv9 hcl ?_
      refine lv_astore_n (lv' := [(3, .ref q9), (0, .ref aR), (1, .int (iI rg)), (2, .ref aO)]) hx hb dL_xAnew_12 rfl hl (by decide) rfl (fun ls hl => ?_)
      refine x_iconst hx hb dL_xAnew_13 ?_
      rw [hQ9]
      exact x_iret hx hb hr hlocks hP hD hS (S := Int × Int × Int × Int × (Nat → Int64)) rfl dL_xAnew_14 ⟨fx, fy, fhx, fhy, lo⟩ (by
          first
          | (
             first | omega | (subst_vars; omega))
          | fail "q9") (by
          first
          | (
             intro h0
             first | (exfalso; omega) | ((try dsimp only); rw [zl_up]; subst_vars; rfl) | ((try dsimp only); rw [zl_up]; congr 1))
          | fail "q9") rfl (Nat.le_of_ble_eq_true rfl) (Nat.le_of_ble_eq_true rfl)
    · skip
      obtain ⟨fx_o_1, fy_o_2, fhx_o_3, fhy_o_4⟩ := u
      have hP : va_P (gD g) vwCl [(aR, .inr (10, [.ref aG, .ref aP, .ref aH, .ref aY, .ref aT, .ref aS, .ref aF, .ref aX, .int (iI pr), .int (iI tk), .int (iI tol), .int (iI hou)])), (aT, .inr (8, [.ref aTp, .ref aTt, .ref aTx, .ref aTy, .ref aE, .int (iI ld)])), (aTp, .inl (gI g, 200, .inl (ar tp))), (aTt, .inl (gI g, 200, .inl (ar tt))), (aF, .inr (2, [.int (iI fx_o_1), .int (iI fy_o_2), .int (iI fhx_o_3), .int (iI fhy_o_4)])), (aO, .inl (gl.1, 1, .inr (.inl lo)))] H := hP
      have hD : va_D A [(aR, .inr (10, [.ref aG, .ref aP, .ref aH, .ref aY, .ref aT, .ref aS, .ref aF, .ref aX, .int (iI pr), .int (iI tk), .int (iI tol), .int (iI hou)])), (aT, .inr (8, [.ref aTp, .ref aTt, .ref aTx, .ref aTy, .ref aE, .int (iI ld)])), (aTp, .inl (gI g, 200, .inl (ar tp))), (aTt, .inl (gI g, 200, .inl (ar tt))), (aF, .inr (2, [.int (iI fx_o_1), .int (iI fy_o_2), .int (iI fhx_o_3), .int (iI fhy_o_4)])), (aO, .inl (gl.1, 1, .inr (.inl lo)))] := hD
      have hv_5 : v_5 = lnO tt tp toSide (rg + 1) := hv_5
      obtain ⟨tv_5, pv_5⟩ := pv_5
      have tv_5 : rgT ld rg = 0 := tv_5
      refine x_i2z hx hb dL_xAnew_7 ?_
      refine va_last hx hb hL.1 hP hD hS 5 0 rfl rfl zl_in dL_xAnew_8 (fun H locs hP hD hS => ?_)
      have hP : va_P (gD g) vwCl [(aR, .inr (10, [.ref aG, .ref aP, .ref aH, .ref aY, .ref aT, .ref aS, .ref aF, .ref aX, .int (iI pr), .int (iI tk), .int (iI tol), .int (iI hou)])), (aT, .inr (8, [.ref aTp, .ref aTt, .ref aTx, .ref aTy, .ref aE, .int (iI ld)])), (aTp, .inl (gI g, 200, .inl (ar tp))), (aTt, .inl (gI g, 200, .inl (ar tt))), (aF, .inr (2, [.int (iI fx_o_1), .int (iI fy_o_2), .int (iI fhx_o_3), .int (iI fhy_o_4)])), (aO, .inl (gl.1, 1, .inr (.inl (vp_updL lo (iI 0).toNatClampNeg (zL v_5)))))] H := hP
      have hD : va_D A [(aR, .inr (10, [.ref aG, .ref aP, .ref aH, .ref aY, .ref aT, .ref aS, .ref aF, .ref aX, .int (iI pr), .int (iI tk), .int (iI tol), .int (iI hou)])), (aT, .inr (8, [.ref aTp, .ref aTt, .ref aTx, .ref aTy, .ref aE, .int (iI ld)])), (aTp, .inl (gI g, 200, .inl (ar tp))), (aTt, .inl (gI g, 200, .inl (ar tt))), (aF, .inr (2, [.int (iI fx_o_1), .int (iI fy_o_2), .int (iI fhx_o_3), .int (iI fhy_o_4)])), (aO, .inl (gl.1, 1, .inr (.inl (vp_updL lo (iI 0).toNatClampNeg (zL v_5)))))] := hD
      refine lv_goto (tgt := 15) hx hb dL_xAnew_9 (by decide) ?_
      refine x_iconst hx hb dL_xAnew_15 ?_
      rw [hQ9]
      exact x_iret hx hb hr hlocks hP hD hS (S := Int × Int × Int × Int × (Nat → Int64)) rfl dL_xAnew_16 ⟨fx_o_1, fy_o_2, fhx_o_3, fhy_o_4, (vp_updL lo (iI 0).toNatClampNeg (zL v_5))⟩ (by
          first
          | (
             first | omega | (subst_vars; omega))
          | fail "q9") (by
          first
          | (
             intro h0
             first | (exfalso; omega) | ((try dsimp only); rw [zl_up]; subst_vars; rfl) | ((try dsimp only); rw [zl_up]; congr 1))
          | fail "q9") rfl (Nat.le_of_ble_eq_true rfl) (Nat.le_of_ble_eq_true rfl)
  rw [hH, hlo, hQ9] at goal_
  exact goal_

set_option maxHeartbeats 4000000 in
set_option maxRecDepth 100000 in
theorem c_L_yAnew (l : Launch) (hflags : l.stackTraces = false) (g : xg) (gl : ClassId × ClassId) (sz : Nat) (aR aG aP aH aY aT aS aF aX aTp aTt aTx aTy aE aO : Nat) (pr tk tol hou ld fx fy fhx fhy rg : Int) (tp tt : Int → Int) (lo : Nat → Int64) (hld : 0 ≤ ld ∧ ld ≤ 200) (hb_tp : bnd tp 0 7) (hb_tt : bnd tt 0 9) (hr_rg : iR rg) : Met l yL_yAnew wsL_yAnew { frames := 8, cells := 1, slots := 6, locals := 134 } (va_Pc [.ref aR, .int (iI rg), .ref aO] (xBL g gl [(aR, .inr (10, [.ref aG, .ref aP, .ref aH, .ref aY, .ref aT, .ref aS, .ref aF, .ref aX, .int (iI pr), .int (iI tk), .int (iI tol), .int (iI hou)])), (aT, .inr (8, [.ref aTp, .ref aTt, .ref aTx, .ref aTy, .ref aE, .int (iI ld)])), (aTp, .inl (gI g, 200, .inl (ar tp))), (aTt, .inl (gI g, 200, .inl (ar tt))), (aF, .inr (2, [.int (iI fx), .int (iI fy), .int (iI fhx), .int (iI fhy)])), (aO, .inl (gl.1, 1, .inr (.inl lo)))] sz)) (va_Qi (fun r u => r = iI ((fun (u : Int × Int × Int × Int × (Nat → Int64)) => rgT ld rg) u) ∧ (fun (u : Int × Int × Int × Int × (Nat → Int64)) => (rgT ld rg = 0 → u.2.2.2.2 0 = zL (lnO tt tp upward (rg + 1)))) u) (fun u t => xE g (va_A [(aR, .inr (10, [.ref aG, .ref aP, .ref aH, .ref aY, .ref aT, .ref aS, .ref aF, .ref aX, .int (iI pr), .int (iI tk), .int (iI tol), .int (iI hou)])), (aT, .inr (8, [.ref aTp, .ref aTt, .ref aTx, .ref aTy, .ref aE, .int (iI ld)])), (aTp, .inl (gI g, 200, .inl (ar tp))), (aTt, .inl (gI g, 200, .inl (ar tt))), (aF, .inr (2, [.int (iI fx), .int (iI fy), .int (iI fhx), .int (iI fhy)])), (aO, .inl (gl.1, 1, .inr (.inl lo)))] sz) ((fun (u : Int × Int × Int × Int × (Nat → Int64)) => [(aR, .inr (10, [.ref aG, .ref aP, .ref aH, .ref aY, .ref aT, .ref aS, .ref aF, .ref aX, .int (iI pr), .int (iI tk), .int (iI tol), .int (iI hou)])), (aT, .inr (8, [.ref aTp, .ref aTt, .ref aTx, .ref aTy, .ref aE, .int (iI ld)])), (aTp, .inl (gI g, 200, .inl (ar tp))), (aTt, .inl (gI g, 200, .inl (ar tt))), (aF, .inr (2, [.int (iI u.1), .int (iI u.2.1), .int (iI u.2.2.1), .int (iI u.2.2.2.1)])), (aO, .inl (gl.1, 1, .inr (.inl u.2.2.2.2)))]) u) t) (va_A [(aR, .inr (10, [.ref aG, .ref aP, .ref aH, .ref aY, .ref aT, .ref aS, .ref aF, .ref aX, .int (iI pr), .int (iI tk), .int (iI tol), .int (iI hou)])), (aT, .inr (8, [.ref aTp, .ref aTt, .ref aTx, .ref aTy, .ref aE, .int (iI ld)])), (aTp, .inl (gI g, 200, .inl (ar tp))), (aTt, .inl (gI g, 200, .inl (ar tt))), (aF, .inr (2, [.int (iI fx), .int (iI fy), .int (iI fhx), .int (iI fhy)])), (aO, .inl (gl.1, 1, .inr (.inl lo)))] sz)) 1 6 (va_A [(aR, .inr (10, [.ref aG, .ref aP, .ref aH, .ref aY, .ref aT, .ref aS, .ref aF, .ref aX, .int (iI pr), .int (iI tk), .int (iI tol), .int (iI hou)])), (aT, .inr (8, [.ref aTp, .ref aTt, .ref aTx, .ref aTy, .ref aE, .int (iI ld)])), (aTp, .inl (gI g, 200, .inl (ar tp))), (aTt, .inl (gI g, 200, .inl (ar tt))), (aF, .inr (2, [.int (iI fx), .int (iI fy), .int (iI fhx), .int (iI fhy)])), (aO, .inl (gl.1, 1, .inr (.inl lo)))] sz) := by
  refine x_enterH (y := yL_yAnew) (ws := wsL_yAnew) (g := g) (sz := sz) (av := [.ref aR, .int (iI rg), .ref aO]) (WS := [(aR, .inr (10, [.ref aG, .ref aP, .ref aH, .ref aY, .ref aT, .ref aS, .ref aF, .ref aX, .int (iI pr), .int (iI tk), .int (iI tol), .int (iI hou)])), (aT, .inr (8, [.ref aTp, .ref aTt, .ref aTx, .ref aTy, .ref aE, .int (iI ld)])), (aTp, .inl (gI g, 200, .inl (ar tp))), (aTt, .inl (gI g, 200, .inl (ar tt))), (aF, .inr (2, [.int (iI fx), .int (iI fy), .int (iI fhx), .int (iI fhy)])), (aO, .inl (gl.1, 1, .inr (.inl lo)))]) (cc := cL_yAnew) (maxL := 4) (ret := some .int) (Qc := (fun A => (va_Qi (fun r u => r = iI ((fun (u : Int × Int × Int × Int × (Nat → Int64)) => rgT ld rg) u) ∧ (fun (u : Int × Int × Int × Int × (Nat → Int64)) => (rgT ld rg = 0 → u.2.2.2.2 0 = zL (lnO tt tp upward (rg + 1)))) u) (fun u t => xE g A ((fun (u : Int × Int × Int × Int × (Nat → Int64)) => [(aR, .inr (10, [.ref aG, .ref aP, .ref aH, .ref aY, .ref aT, .ref aS, .ref aF, .ref aX, .int (iI pr), .int (iI tk), .int (iI tol), .int (iI hou)])), (aT, .inr (8, [.ref aTp, .ref aTt, .ref aTx, .ref aTy, .ref aE, .int (iI ld)])), (aTp, .inl (gI g, 200, .inl (ar tp))), (aTt, .inl (gI g, 200, .inl (ar tt))), (aF, .inr (2, [.int (iI u.1), .int (iI u.2.1), .int (iI u.2.2.1), .int (iI u.2.2.2.1)])), (aO, .inl (gl.1, 1, .inr (.inl u.2.2.2.2)))]) u) t) A))) (by decide) rfl (Nat.le_of_ble_eq_true rfl) ?_
  intro p e s m args below meth c A ls hx hb hr hml hown hts hlocks htab hL hC hP hD hS hA hl
  have hK := hC.1
  have hown : s.vm.findClass RL = some m.cls := hown
  have hl : lv_has ls 4 [(0, .ref aR), (1, .int (iI rg)), (2, .ref aO)] := hl
  obtain ⟨H, hH⟩ : ∃ z, z = s.heap := ⟨_, rfl⟩
  obtain ⟨locs, hlo⟩ : ∃ z : List Loc, z = [] := ⟨_, rfl⟩
  obtain ⟨Q9, hQ9⟩ : ∃ z, z = MQ below (va_Qi (fun r u => r = iI ((fun (u : Int × Int × Int × Int × (Nat → Int64)) => rgT ld rg) u) ∧ (fun (u : Int × Int × Int × Int × (Nat → Int64)) => (rgT ld rg = 0 → u.2.2.2.2 0 = zL (lnO tt tp upward (rg + 1)))) u) (fun u t => xE g A ((fun (u : Int × Int × Int × Int × (Nat → Int64)) => [(aR, .inr (10, [.ref aG, .ref aP, .ref aH, .ref aY, .ref aT, .ref aS, .ref aF, .ref aX, .int (iI pr), .int (iI tk), .int (iI tol), .int (iI hou)])), (aT, .inr (8, [.ref aTp, .ref aTt, .ref aTx, .ref aTy, .ref aE, .int (iI ld)])), (aTp, .inl (gI g, 200, .inl (ar tp))), (aTt, .inl (gI g, 200, .inl (ar tt))), (aF, .inr (2, [.int (iI u.1), .int (iI u.2.1), .int (iI u.2.2.1), .int (iI u.2.2.2.1)])), (aO, .inl (gl.1, 1, .inr (.inl u.2.2.2.2)))]) u) t) A) args s 1 6 A := ⟨_, rfl⟩
  have hP : va_P (gD g) vwCl [(aR, .inr (10, [.ref aG, .ref aP, .ref aH, .ref aY, .ref aT, .ref aS, .ref aF, .ref aX, .int (iI pr), .int (iI tk), .int (iI tol), .int (iI hou)])), (aT, .inr (8, [.ref aTp, .ref aTt, .ref aTx, .ref aTy, .ref aE, .int (iI ld)])), (aTp, .inl (gI g, 200, .inl (ar tp))), (aTt, .inl (gI g, 200, .inl (ar tt))), (aF, .inr (2, [.int (iI fx), .int (iI fy), .int (iI fhx), .int (iI fhy)])), (aO, .inl (gl.1, 1, .inr (.inl lo)))] H := by rw [hH]; exact hP
  have hS : va_S A s.heap H locs := by rw [hH, hlo]; exact hS
  have goal_ : W p l e { frames := 8, cells := 1, slots := 6, locals := 134 } s m args below meth c H locs 0 0 Q9 (F0 m 0 ls []) := by
    clear hH hlo
    refine lv_aload_n hx hb dL_yAnew_0 rfl (lv_at hl 2 rfl) ?_
    refine x_iconst hx hb dL_yAnew_1 ?_
    refine lv_aload_n hx hb dL_yAnew_2 rfl (lv_at hl 0 rfl) ?_
    refine lv_iload_n hx hb dL_yAnew_3 rfl (lv_at hl 1 rfl) ?_
    refine x_calliX (S := Int × Int × Int × Int) (SX := Unit) (wc := [(aR, .inr (10, [.ref aG, .ref aP, .ref aH, .ref aY, .ref aT, .ref aS, .ref aF, .ref aX, .int (iI pr), .int (iI tk), .int (iI tol), .int (iI hou)])), (aT, .inr (8, [.ref aTp, .ref aTt, .ref aTx, .ref aTy, .ref aE, .int (iI ld)])), (aTp, .inl (gI g, 200, .inl (ar tp))), (aTt, .inl (gI g, 200, .inl (ar tt))), (aF, .inr (2, [.int (iI fx), .int (iI fy), .int (iI fhx), .int (iI fhy)]))]) (wr := [(aO, .inl (gl.1, 1, .inr (.inl lo)))]) hC hP hD hS hA [0, 1, 2, 3, 4] [5] [1, 2, 3, 4, 5, 0] rfl rfl (fun hpre => vx_runV (As := [.int (iI rg)]) (rest := [.int (iI 0), .ref aO]) ⟨hx, hb, hml, hown, hts⟩ (c_X8_yAnew l hflags g H.size aR aG aP aH aY aT aS aF aX aTp aTt aTx aTy aE pr tk tol hou ld fx fy fhx fhy rg tp tt (by first | (first | assumption | omega | exact bnd_up (by assumption) (by omega) (by omega)) | fail "q8") (by first | (first | assumption | omega | exact bnd_up (by assumption) (by omega) (by omega)) | fail "q8") (by first | (first | assumption | omega | exact bnd_up (by assumption) (by omega) (by omega)) | fail "q8") (by first | (first | assumption | omega | exact bnd_up (by assumption) (by omega) (by omega)) | fail "q8")) (cwV 1 hts gL_yAnew_X8_yAnew rfl rfl rfl (by decide +kernel) ⟨Nat.le_of_ble_eq_true rfl, Nat.le_of_ble_eq_true rfl⟩) ⟨xB_blind, va_recv hK hP (ci := 10) (q0 := 0) rfl rfl, hpre _⟩ rfl rfl hl.1 rfl (lv_room (Nat.le_of_ble_eq_true rfl)) dL_yAnew_4 ⟨Nat.le_of_ble_eq_true rfl, Nat.le_of_ble_eq_true rfl⟩) (fun (u : Int × Int × Int × Int) => [(aR, .inr (10, [.ref aG, .ref aP, .ref aH, .ref aY, .ref aT, .ref aS, .ref aF, .ref aX, .int (iI pr), .int (iI tk), .int (iI tol), .int (iI hou)])), (aT, .inr (8, [.ref aTp, .ref aTt, .ref aTx, .ref aTy, .ref aE, .int (iI ld)])), (aTp, .inl (gI g, 200, .inl (ar tp))), (aTt, .inl (gI g, 200, .inl (ar tt))), (aF, .inr (2, [.int (iI u.1), .int (iI u.2.1), .int (iI u.2.2.1), .int (iI u.2.2.2)])), (aO, .inl (gl.1, 1, .inr (.inl lo)))]) (fun (u : Unit) => ([(aR, .inr (10, [.ref aG, .ref aP, .ref aH, .ref aY, .ref aT, .ref aS, .ref aF, .ref aX, .int (iI pr), .int (iI tk), .int (iI tol), .int (iI hou)])), (aT, .inr (8, [.ref aTp, .ref aTt, .ref aTx, .ref aTy, .ref aE, .int (iI ld)])), (aTp, .inl (gI g, 200, .inl (ar tp))), (aTt, .inl (gI g, 200, .inl (ar tt))), (aF, .inr (2, [.int (iI fx), .int (iI fy), .int (iI fhx), .int (iI fhy)])), (aO, .inl (gl.1, 1, .inr (.inl lo)))] : va_W)) rfl rfl (by decide) (fun _ => rfl) (fun _ => rfl) rfl (fun E ce q9 u H locs hXP hPX hP hD hS hcell hv9 hcl => ?_) (fun u v_5 H locs hv_5 pv_5 hP hD hS => ?_)
    · skip
      have hP : va_P (gD g) vwCl [(aR, .inr (10, [.ref aG, .ref aP, .ref aH, .ref aY, .ref aT, .ref aS, .ref aF, .ref aX, .int (iI pr), .int (iI tk), .int (iI tol), .int (iI hou)])), (aT, .inr (8, [.ref aTp, .ref aTt, .ref aTx, .ref aTy, .ref aE, .int (iI ld)])), (aTp, .inl (gI g, 200, .inl (ar tp))), (aTt, .inl (gI g, 200, .inl (ar tt))), (aF, .inr (2, [.int (iI fx), .int (iI fy), .int (iI fhx), .int (iI fhy)])), (aO, .inl (gl.1, 1, .inr (.inl lo)))] H := hP
      have hD : va_D A [(aR, .inr (10, [.ref aG, .ref aP, .ref aH, .ref aY, .ref aT, .ref aS, .ref aF, .ref aX, .int (iI pr), .int (iI tk), .int (iI tol), .int (iI hou)])), (aT, .inr (8, [.ref aTp, .ref aTt, .ref aTx, .ref aTy, .ref aE, .int (iI ld)])), (aTp, .inl (gI g, 200, .inl (ar tp))), (aTt, .inl (gI g, 200, .inl (ar tt))), (aF, .inr (2, [.int (iI fx), .int (iI fy), .int (iI fhx), .int (iI fhy)])), (aO, .inl (gl.1, 1, .inr (.inl lo)))] := hD
      obtain ⟨hE, hp⟩ := hPX
      have hp : rgT ld rg = 1 := hp
      subst hE
      refine vx_catch (E := "java/lang/IndexOutOfBoundsException") (name := "java/lang/IndexOutOfBoundsException") hown [] ⟨0, 9, 12, 24⟩ [] (by rw [htab]; rfl) (fun z hz => by cases hz) (by decide) (by decide) (hts (.classLink RL 24 "java/lang/IndexOutOfBoundsException") (List.mem_of_getElem? (i := 1) rfl)) (va_Nw.use rfl (hC.2.2.2.2.2.2.2.2.2.2.1 "java/lang/IndexOutOfBoundsException" (List.mem_of_getElem? (i := 2) rfl))) hcell hv9 hcl ?_
      refine lv_astore_n (lv' := [(3, .ref q9), (0, .ref aR), (1, .int (iI rg)), (2, .ref aO)]) hx hb dL_yAnew_12 rfl hl (by decide) rfl (fun ls hl => ?_)
      refine x_iconst hx hb dL_yAnew_13 ?_
      rw [hQ9]
      exact x_iret hx hb hr hlocks hP hD hS (S := Int × Int × Int × Int × (Nat → Int64)) rfl dL_yAnew_14 ⟨fx, fy, fhx, fhy, lo⟩ (by
          first
          | (
             first | omega | (subst_vars; omega))
          | fail "q9") (by
          first
          | (
             intro h0
             first | (exfalso; omega) | ((try dsimp only); rw [zl_up]; subst_vars; rfl) | ((try dsimp only); rw [zl_up]; congr 1))
          | fail "q9") rfl (Nat.le_of_ble_eq_true rfl) (Nat.le_of_ble_eq_true rfl)
    · skip
      obtain ⟨fx_o_1, fy_o_2, fhx_o_3, fhy_o_4⟩ := u
      have hP : va_P (gD g) vwCl [(aR, .inr (10, [.ref aG, .ref aP, .ref aH, .ref aY, .ref aT, .ref aS, .ref aF, .ref aX, .int (iI pr), .int (iI tk), .int (iI tol), .int (iI hou)])), (aT, .inr (8, [.ref aTp, .ref aTt, .ref aTx, .ref aTy, .ref aE, .int (iI ld)])), (aTp, .inl (gI g, 200, .inl (ar tp))), (aTt, .inl (gI g, 200, .inl (ar tt))), (aF, .inr (2, [.int (iI fx_o_1), .int (iI fy_o_2), .int (iI fhx_o_3), .int (iI fhy_o_4)])), (aO, .inl (gl.1, 1, .inr (.inl lo)))] H := hP
      have hD : va_D A [(aR, .inr (10, [.ref aG, .ref aP, .ref aH, .ref aY, .ref aT, .ref aS, .ref aF, .ref aX, .int (iI pr), .int (iI tk), .int (iI tol), .int (iI hou)])), (aT, .inr (8, [.ref aTp, .ref aTt, .ref aTx, .ref aTy, .ref aE, .int (iI ld)])), (aTp, .inl (gI g, 200, .inl (ar tp))), (aTt, .inl (gI g, 200, .inl (ar tt))), (aF, .inr (2, [.int (iI fx_o_1), .int (iI fy_o_2), .int (iI fhx_o_3), .int (iI fhy_o_4)])), (aO, .inl (gl.1, 1, .inr (.inl lo)))] := hD
      have hv_5 : v_5 = lnO tt tp upward (rg + 1) := hv_5
      obtain ⟨tv_5, pv_5⟩ := pv_5
      have tv_5 : rgT ld rg = 0 := tv_5
      refine x_i2z hx hb dL_yAnew_7 ?_
      refine va_last hx hb hL.1 hP hD hS 5 0 rfl rfl zl_in dL_yAnew_8 (fun H locs hP hD hS => ?_)
      have hP : va_P (gD g) vwCl [(aR, .inr (10, [.ref aG, .ref aP, .ref aH, .ref aY, .ref aT, .ref aS, .ref aF, .ref aX, .int (iI pr), .int (iI tk), .int (iI tol), .int (iI hou)])), (aT, .inr (8, [.ref aTp, .ref aTt, .ref aTx, .ref aTy, .ref aE, .int (iI ld)])), (aTp, .inl (gI g, 200, .inl (ar tp))), (aTt, .inl (gI g, 200, .inl (ar tt))), (aF, .inr (2, [.int (iI fx_o_1), .int (iI fy_o_2), .int (iI fhx_o_3), .int (iI fhy_o_4)])), (aO, .inl (gl.1, 1, .inr (.inl (vp_updL lo (iI 0).toNatClampNeg (zL v_5)))))] H := hP
      have hD : va_D A [(aR, .inr (10, [.ref aG, .ref aP, .ref aH, .ref aY, .ref aT, .ref aS, .ref aF, .ref aX, .int (iI pr), .int (iI tk), .int (iI tol), .int (iI hou)])), (aT, .inr (8, [.ref aTp, .ref aTt, .ref aTx, .ref aTy, .ref aE, .int (iI ld)])), (aTp, .inl (gI g, 200, .inl (ar tp))), (aTt, .inl (gI g, 200, .inl (ar tt))), (aF, .inr (2, [.int (iI fx_o_1), .int (iI fy_o_2), .int (iI fhx_o_3), .int (iI fhy_o_4)])), (aO, .inl (gl.1, 1, .inr (.inl (vp_updL lo (iI 0).toNatClampNeg (zL v_5)))))] := hD
      refine lv_goto (tgt := 15) hx hb dL_yAnew_9 (by decide) ?_
      refine x_iconst hx hb dL_yAnew_15 ?_
      rw [hQ9]
      exact x_iret hx hb hr hlocks hP hD hS (S := Int × Int × Int × Int × (Nat → Int64)) rfl dL_yAnew_16 ⟨fx_o_1, fy_o_2, fhx_o_3, fhy_o_4, (vp_updL lo (iI 0).toNatClampNeg (zL v_5))⟩ (by
          first
          | (
             first | omega | (subst_vars; omega))
          | fail "q9") (by
          first
          | (
             intro h0
             first | (exfalso; omega) | ((try dsimp only); rw [zl_up]; subst_vars; rfl) | ((try dsimp only); rw [zl_up]; congr 1))
          | fail "q9") rfl (Nat.le_of_ble_eq_true rfl) (Nat.le_of_ble_eq_true rfl)
  rw [hH, hlo, hQ9] at goal_
  exact goal_

set_option maxHeartbeats 4000000 in
set_option maxRecDepth 100000 in
theorem c_L_deviationAfter (l : Launch) (hflags : l.stackTraces = false) (g : xg) (gl : ClassId × ClassId) (sz : Nat) (aR aG aP aH aY aT aS aF aX aTp aTt aTx aTy aE aPx aPy aO : Nat) (pr tk tol hou ld pn fx fy fhx fhy rg : Int) (kx ky bx byy : Int → Int) (lo : Nat → Int64) (hld : 0 ≤ ld ∧ ld ≤ 200) (hpn : 0 ≤ pn ∧ pn ≤ 200) (hb_bx : bnd bx (-5) 5) (hb_byy : bnd byy (-5) 5) (hb_kx : bnd kx (-400000) 400000) (hb_ky : bnd ky (-400000) 400000) (hr_rg : iR rg) : Met l yL_deviationAfter wsL_deviationAfter { frames := 8, cells := 1, slots := 6, locals := 134 } (va_Pc [.ref aR, .int (iI rg), .ref aO] (xBL g gl [(aR, .inr (10, [.ref aG, .ref aP, .ref aH, .ref aY, .ref aT, .ref aS, .ref aF, .ref aX, .int (iI pr), .int (iI tk), .int (iI tol), .int (iI hou)])), (aT, .inr (8, [.ref aTp, .ref aTt, .ref aTx, .ref aTy, .ref aE, .int (iI ld)])), (aTx, .inl (gI g, 200, .inl (ar kx))), (aTy, .inl (gI g, 200, .inl (ar ky))), (aP, .inr (5, [.ref aPx, .ref aPy, .int (iI pn)])), (aPx, .inl (gI g, 200, .inl (ar bx))), (aPy, .inl (gI g, 200, .inl (ar byy))), (aF, .inr (2, [.int (iI fx), .int (iI fy), .int (iI fhx), .int (iI fhy)])), (aO, .inl (gl.1, 1, .inr (.inl lo)))] sz)) (va_Qi (fun r u => r = iI ((fun (u : Int × Int × Int × Int × (Nat → Int64)) => rgT ld rg) u) ∧ (fun (u : Int × Int × Int × Int × (Nat → Int64)) => (rgT ld rg = 0 → u.2.2.2.2 0 = zL (aI (kx rg - plO pn bx (rg + 1)) + aI (ky rg - plO pn byy (rg + 1))))) u) (fun u t => xE g (va_A [(aR, .inr (10, [.ref aG, .ref aP, .ref aH, .ref aY, .ref aT, .ref aS, .ref aF, .ref aX, .int (iI pr), .int (iI tk), .int (iI tol), .int (iI hou)])), (aT, .inr (8, [.ref aTp, .ref aTt, .ref aTx, .ref aTy, .ref aE, .int (iI ld)])), (aTx, .inl (gI g, 200, .inl (ar kx))), (aTy, .inl (gI g, 200, .inl (ar ky))), (aP, .inr (5, [.ref aPx, .ref aPy, .int (iI pn)])), (aPx, .inl (gI g, 200, .inl (ar bx))), (aPy, .inl (gI g, 200, .inl (ar byy))), (aF, .inr (2, [.int (iI fx), .int (iI fy), .int (iI fhx), .int (iI fhy)])), (aO, .inl (gl.1, 1, .inr (.inl lo)))] sz) ((fun (u : Int × Int × Int × Int × (Nat → Int64)) => [(aR, .inr (10, [.ref aG, .ref aP, .ref aH, .ref aY, .ref aT, .ref aS, .ref aF, .ref aX, .int (iI pr), .int (iI tk), .int (iI tol), .int (iI hou)])), (aT, .inr (8, [.ref aTp, .ref aTt, .ref aTx, .ref aTy, .ref aE, .int (iI ld)])), (aTx, .inl (gI g, 200, .inl (ar kx))), (aTy, .inl (gI g, 200, .inl (ar ky))), (aP, .inr (5, [.ref aPx, .ref aPy, .int (iI pn)])), (aPx, .inl (gI g, 200, .inl (ar bx))), (aPy, .inl (gI g, 200, .inl (ar byy))), (aF, .inr (2, [.int (iI u.1), .int (iI u.2.1), .int (iI u.2.2.1), .int (iI u.2.2.2.1)])), (aO, .inl (gl.1, 1, .inr (.inl u.2.2.2.2)))]) u) t) (va_A [(aR, .inr (10, [.ref aG, .ref aP, .ref aH, .ref aY, .ref aT, .ref aS, .ref aF, .ref aX, .int (iI pr), .int (iI tk), .int (iI tol), .int (iI hou)])), (aT, .inr (8, [.ref aTp, .ref aTt, .ref aTx, .ref aTy, .ref aE, .int (iI ld)])), (aTx, .inl (gI g, 200, .inl (ar kx))), (aTy, .inl (gI g, 200, .inl (ar ky))), (aP, .inr (5, [.ref aPx, .ref aPy, .int (iI pn)])), (aPx, .inl (gI g, 200, .inl (ar bx))), (aPy, .inl (gI g, 200, .inl (ar byy))), (aF, .inr (2, [.int (iI fx), .int (iI fy), .int (iI fhx), .int (iI fhy)])), (aO, .inl (gl.1, 1, .inr (.inl lo)))] sz)) 1 6 (va_A [(aR, .inr (10, [.ref aG, .ref aP, .ref aH, .ref aY, .ref aT, .ref aS, .ref aF, .ref aX, .int (iI pr), .int (iI tk), .int (iI tol), .int (iI hou)])), (aT, .inr (8, [.ref aTp, .ref aTt, .ref aTx, .ref aTy, .ref aE, .int (iI ld)])), (aTx, .inl (gI g, 200, .inl (ar kx))), (aTy, .inl (gI g, 200, .inl (ar ky))), (aP, .inr (5, [.ref aPx, .ref aPy, .int (iI pn)])), (aPx, .inl (gI g, 200, .inl (ar bx))), (aPy, .inl (gI g, 200, .inl (ar byy))), (aF, .inr (2, [.int (iI fx), .int (iI fy), .int (iI fhx), .int (iI fhy)])), (aO, .inl (gl.1, 1, .inr (.inl lo)))] sz) := by
  refine x_enterH (y := yL_deviationAfter) (ws := wsL_deviationAfter) (g := g) (sz := sz) (av := [.ref aR, .int (iI rg), .ref aO]) (WS := [(aR, .inr (10, [.ref aG, .ref aP, .ref aH, .ref aY, .ref aT, .ref aS, .ref aF, .ref aX, .int (iI pr), .int (iI tk), .int (iI tol), .int (iI hou)])), (aT, .inr (8, [.ref aTp, .ref aTt, .ref aTx, .ref aTy, .ref aE, .int (iI ld)])), (aTx, .inl (gI g, 200, .inl (ar kx))), (aTy, .inl (gI g, 200, .inl (ar ky))), (aP, .inr (5, [.ref aPx, .ref aPy, .int (iI pn)])), (aPx, .inl (gI g, 200, .inl (ar bx))), (aPy, .inl (gI g, 200, .inl (ar byy))), (aF, .inr (2, [.int (iI fx), .int (iI fy), .int (iI fhx), .int (iI fhy)])), (aO, .inl (gl.1, 1, .inr (.inl lo)))]) (cc := cL_deviationAfter) (maxL := 4) (ret := some .int) (Qc := (fun A => (va_Qi (fun r u => r = iI ((fun (u : Int × Int × Int × Int × (Nat → Int64)) => rgT ld rg) u) ∧ (fun (u : Int × Int × Int × Int × (Nat → Int64)) => (rgT ld rg = 0 → u.2.2.2.2 0 = zL (aI (kx rg - plO pn bx (rg + 1)) + aI (ky rg - plO pn byy (rg + 1))))) u) (fun u t => xE g A ((fun (u : Int × Int × Int × Int × (Nat → Int64)) => [(aR, .inr (10, [.ref aG, .ref aP, .ref aH, .ref aY, .ref aT, .ref aS, .ref aF, .ref aX, .int (iI pr), .int (iI tk), .int (iI tol), .int (iI hou)])), (aT, .inr (8, [.ref aTp, .ref aTt, .ref aTx, .ref aTy, .ref aE, .int (iI ld)])), (aTx, .inl (gI g, 200, .inl (ar kx))), (aTy, .inl (gI g, 200, .inl (ar ky))), (aP, .inr (5, [.ref aPx, .ref aPy, .int (iI pn)])), (aPx, .inl (gI g, 200, .inl (ar bx))), (aPy, .inl (gI g, 200, .inl (ar byy))), (aF, .inr (2, [.int (iI u.1), .int (iI u.2.1), .int (iI u.2.2.1), .int (iI u.2.2.2.1)])), (aO, .inl (gl.1, 1, .inr (.inl u.2.2.2.2)))]) u) t) A))) (by decide) rfl (Nat.le_of_ble_eq_true rfl) ?_
  intro p e s m args below meth c A ls hx hb hr hml hown hts hlocks htab hL hC hP hD hS hA hl
  have hK := hC.1
  have hown : s.vm.findClass RL = some m.cls := hown
  have hl : lv_has ls 4 [(0, .ref aR), (1, .int (iI rg)), (2, .ref aO)] := hl
  obtain ⟨H, hH⟩ : ∃ z, z = s.heap := ⟨_, rfl⟩
  obtain ⟨locs, hlo⟩ : ∃ z : List Loc, z = [] := ⟨_, rfl⟩
  obtain ⟨Q9, hQ9⟩ : ∃ z, z = MQ below (va_Qi (fun r u => r = iI ((fun (u : Int × Int × Int × Int × (Nat → Int64)) => rgT ld rg) u) ∧ (fun (u : Int × Int × Int × Int × (Nat → Int64)) => (rgT ld rg = 0 → u.2.2.2.2 0 = zL (aI (kx rg - plO pn bx (rg + 1)) + aI (ky rg - plO pn byy (rg + 1))))) u) (fun u t => xE g A ((fun (u : Int × Int × Int × Int × (Nat → Int64)) => [(aR, .inr (10, [.ref aG, .ref aP, .ref aH, .ref aY, .ref aT, .ref aS, .ref aF, .ref aX, .int (iI pr), .int (iI tk), .int (iI tol), .int (iI hou)])), (aT, .inr (8, [.ref aTp, .ref aTt, .ref aTx, .ref aTy, .ref aE, .int (iI ld)])), (aTx, .inl (gI g, 200, .inl (ar kx))), (aTy, .inl (gI g, 200, .inl (ar ky))), (aP, .inr (5, [.ref aPx, .ref aPy, .int (iI pn)])), (aPx, .inl (gI g, 200, .inl (ar bx))), (aPy, .inl (gI g, 200, .inl (ar byy))), (aF, .inr (2, [.int (iI u.1), .int (iI u.2.1), .int (iI u.2.2.1), .int (iI u.2.2.2.1)])), (aO, .inl (gl.1, 1, .inr (.inl u.2.2.2.2)))]) u) t) A) args s 1 6 A := ⟨_, rfl⟩
  have hP : va_P (gD g) vwCl [(aR, .inr (10, [.ref aG, .ref aP, .ref aH, .ref aY, .ref aT, .ref aS, .ref aF, .ref aX, .int (iI pr), .int (iI tk), .int (iI tol), .int (iI hou)])), (aT, .inr (8, [.ref aTp, .ref aTt, .ref aTx, .ref aTy, .ref aE, .int (iI ld)])), (aTx, .inl (gI g, 200, .inl (ar kx))), (aTy, .inl (gI g, 200, .inl (ar ky))), (aP, .inr (5, [.ref aPx, .ref aPy, .int (iI pn)])), (aPx, .inl (gI g, 200, .inl (ar bx))), (aPy, .inl (gI g, 200, .inl (ar byy))), (aF, .inr (2, [.int (iI fx), .int (iI fy), .int (iI fhx), .int (iI fhy)])), (aO, .inl (gl.1, 1, .inr (.inl lo)))] H := by rw [hH]; exact hP
  have hS : va_S A s.heap H locs := by rw [hH, hlo]; exact hS
  have goal_ : W p l e { frames := 8, cells := 1, slots := 6, locals := 134 } s m args below meth c H locs 0 0 Q9 (F0 m 0 ls []) := by
    clear hH hlo
    refine lv_aload_n hx hb dL_deviationAfter_0 rfl (lv_at hl 2 rfl) ?_
    refine x_iconst hx hb dL_deviationAfter_1 ?_
    refine lv_aload_n hx hb dL_deviationAfter_2 rfl (lv_at hl 0 rfl) ?_
    refine lv_iload_n hx hb dL_deviationAfter_3 rfl (lv_at hl 1 rfl) ?_
    refine x_calliX (S := Int × Int × Int × Int) (SX := Unit) (wc := [(aR, .inr (10, [.ref aG, .ref aP, .ref aH, .ref aY, .ref aT, .ref aS, .ref aF, .ref aX, .int (iI pr), .int (iI tk), .int (iI tol), .int (iI hou)])), (aT, .inr (8, [.ref aTp, .ref aTt, .ref aTx, .ref aTy, .ref aE, .int (iI ld)])), (aTx, .inl (gI g, 200, .inl (ar kx))), (aTy, .inl (gI g, 200, .inl (ar ky))), (aP, .inr (5, [.ref aPx, .ref aPy, .int (iI pn)])), (aPx, .inl (gI g, 200, .inl (ar bx))), (aPy, .inl (gI g, 200, .inl (ar byy))), (aF, .inr (2, [.int (iI fx), .int (iI fy), .int (iI fhx), .int (iI fhy)]))]) (wr := [(aO, .inl (gl.1, 1, .inr (.inl lo)))]) hC hP hD hS hA [0, 1, 2, 3, 4, 5, 6, 7] [8] [1, 2, 3, 4, 5, 6, 7, 8, 0] rfl rfl (fun hpre => vx_runV (As := [.int (iI rg)]) (rest := [.int (iI 0), .ref aO]) ⟨hx, hb, hml, hown, hts⟩ (c_X8_deviationAfter l hflags g H.size aR aG aP aH aY aT aS aF aX aTp aTt aTx aTy aE aPx aPy pr tk tol hou ld pn fx fy fhx fhy rg kx ky bx byy (by first | (first | assumption | omega | exact bnd_up (by assumption) (by omega) (by omega)) | fail "q8") (by first | (first | assumption | omega | exact bnd_up (by assumption) (by omega) (by omega)) | fail "q8") (by first | (first | assumption | omega | exact bnd_up (by assumption) (by omega) (by omega)) | fail "q8") (by first | (first | assumption | omega | exact bnd_up (by assumption) (by omega) (by omega)) | fail "q8") (by first | (first | assumption | omega | exact bnd_up (by assumption) (by omega) (by omega)) | fail "q8") (by first | (first | assumption | omega | exact bnd_up (by assumption) (by omega) (by omega)) | fail "q8") (by first | (first | assumption | omega | exact bnd_up (by assumption) (by omega) (by omega)) | fail "q8")) (cwV 1 hts gL_deviationAfter_X8_deviationAfter rfl rfl rfl (by decide +kernel) ⟨Nat.le_of_ble_eq_true rfl, Nat.le_of_ble_eq_true rfl⟩) ⟨xB_blind, va_recv hK hP (ci := 10) (q0 := 0) rfl rfl, hpre _⟩ rfl rfl hl.1 rfl (lv_room (Nat.le_of_ble_eq_true rfl)) dL_deviationAfter_4 ⟨Nat.le_of_ble_eq_true rfl, Nat.le_of_ble_eq_true rfl⟩) (fun (u : Int × Int × Int × Int) => [(aR, .inr (10, [.ref aG, .ref aP, .ref aH, .ref aY, .ref aT, .ref aS, .ref aF, .ref aX, .int (iI pr), .int (iI tk), .int (iI tol), .int (iI hou)])), (aT, .inr (8, [.ref aTp, .ref aTt, .ref aTx, .ref aTy, .ref aE, .int (iI ld)])), (aTx, .inl (gI g, 200, .inl (ar kx))), (aTy, .inl (gI g, 200, .inl (ar ky))), (aP, .inr (5, [.ref aPx, .ref aPy, .int (iI pn)])), (aPx, .inl (gI g, 200, .inl (ar bx))), (aPy, .inl (gI g, 200, .inl (ar byy))), (aF, .inr (2, [.int (iI u.1), .int (iI u.2.1), .int (iI u.2.2.1), .int (iI u.2.2.2)])), (aO, .inl (gl.1, 1, .inr (.inl lo)))]) (fun (u : Unit) => ([(aR, .inr (10, [.ref aG, .ref aP, .ref aH, .ref aY, .ref aT, .ref aS, .ref aF, .ref aX, .int (iI pr), .int (iI tk), .int (iI tol), .int (iI hou)])), (aT, .inr (8, [.ref aTp, .ref aTt, .ref aTx, .ref aTy, .ref aE, .int (iI ld)])), (aTx, .inl (gI g, 200, .inl (ar kx))), (aTy, .inl (gI g, 200, .inl (ar ky))), (aP, .inr (5, [.ref aPx, .ref aPy, .int (iI pn)])), (aPx, .inl (gI g, 200, .inl (ar bx))), (aPy, .inl (gI g, 200, .inl (ar byy))), (aF, .inr (2, [.int (iI fx), .int (iI fy), .int (iI fhx), .int (iI fhy)])), (aO, .inl (gl.1, 1, .inr (.inl lo)))] : va_W)) rfl rfl (by decide) (fun _ => rfl) (fun _ => rfl) rfl (fun E ce q9 u H locs hXP hPX hP hD hS hcell hv9 hcl => ?_) (fun u v_5 H locs hv_5 pv_5 hP hD hS => ?_)
    · skip
      have hP : va_P (gD g) vwCl [(aR, .inr (10, [.ref aG, .ref aP, .ref aH, .ref aY, .ref aT, .ref aS, .ref aF, .ref aX, .int (iI pr), .int (iI tk), .int (iI tol), .int (iI hou)])), (aT, .inr (8, [.ref aTp, .ref aTt, .ref aTx, .ref aTy, .ref aE, .int (iI ld)])), (aTx, .inl (gI g, 200, .inl (ar kx))), (aTy, .inl (gI g, 200, .inl (ar ky))), (aP, .inr (5, [.ref aPx, .ref aPy, .int (iI pn)])), (aPx, .inl (gI g, 200, .inl (ar bx))), (aPy, .inl (gI g, 200, .inl (ar byy))), (aF, .inr (2, [.int (iI fx), .int (iI fy), .int (iI fhx), .int (iI fhy)])), (aO, .inl (gl.1, 1, .inr (.inl lo)))] H := hP
      have hD : va_D A [(aR, .inr (10, [.ref aG, .ref aP, .ref aH, .ref aY, .ref aT, .ref aS, .ref aF, .ref aX, .int (iI pr), .int (iI tk), .int (iI tol), .int (iI hou)])), (aT, .inr (8, [.ref aTp, .ref aTt, .ref aTx, .ref aTy, .ref aE, .int (iI ld)])), (aTx, .inl (gI g, 200, .inl (ar kx))), (aTy, .inl (gI g, 200, .inl (ar ky))), (aP, .inr (5, [.ref aPx, .ref aPy, .int (iI pn)])), (aPx, .inl (gI g, 200, .inl (ar bx))), (aPy, .inl (gI g, 200, .inl (ar byy))), (aF, .inr (2, [.int (iI fx), .int (iI fy), .int (iI fhx), .int (iI fhy)])), (aO, .inl (gl.1, 1, .inr (.inl lo)))] := hD
      obtain ⟨hE, hp⟩ := hPX
      have hp : rgT ld rg = 1 := hp
      subst hE
      refine vx_catch (E := "java/lang/IndexOutOfBoundsException") (name := "java/lang/IndexOutOfBoundsException") hown [] ⟨0, 9, 12, 24⟩ [] (by rw [htab]; rfl) (fun z hz => by cases hz) (by decide) (by decide) (hts (.classLink RL 24 "java/lang/IndexOutOfBoundsException") (List.mem_of_getElem? (i := 1) rfl)) (va_Nw.use rfl (hC.2.2.2.2.2.2.2.2.2.2.1 "java/lang/IndexOutOfBoundsException" (List.mem_of_getElem? (i := 2) rfl))) hcell hv9 hcl ?_
      refine lv_astore_n (lv' := [(3, .ref q9), (0, .ref aR), (1, .int (iI rg)), (2, .ref aO)]) hx hb dL_deviationAfter_12 rfl hl (by decide) rfl (fun ls hl => ?_)
      refine x_iconst hx hb dL_deviationAfter_13 ?_
      rw [hQ9]
      exact x_iret hx hb hr hlocks hP hD hS (S := Int × Int × Int × Int × (Nat → Int64)) rfl dL_deviationAfter_14 ⟨fx, fy, fhx, fhy, lo⟩ (by
          first
          | (
             first | omega | (subst_vars; omega))
          | fail "q9") (by
          first
          | (
             intro h0
             first | (exfalso; omega) | ((try dsimp only); rw [zl_up]; subst_vars; rfl) | ((try dsimp only); rw [zl_up]; congr 1))
          | fail "q9") rfl (Nat.le_of_ble_eq_true rfl) (Nat.le_of_ble_eq_true rfl)
    · skip
      obtain ⟨fx_o_1, fy_o_2, fhx_o_3, fhy_o_4⟩ := u
      have hP : va_P (gD g) vwCl [(aR, .inr (10, [.ref aG, .ref aP, .ref aH, .ref aY, .ref aT, .ref aS, .ref aF, .ref aX, .int (iI pr), .int (iI tk), .int (iI tol), .int (iI hou)])), (aT, .inr (8, [.ref aTp, .ref aTt, .ref aTx, .ref aTy, .ref aE, .int (iI ld)])), (aTx, .inl (gI g, 200, .inl (ar kx))), (aTy, .inl (gI g, 200, .inl (ar ky))), (aP, .inr (5, [.ref aPx, .ref aPy, .int (iI pn)])), (aPx, .inl (gI g, 200, .inl (ar bx))), (aPy, .inl (gI g, 200, .inl (ar byy))), (aF, .inr (2, [.int (iI fx_o_1), .int (iI fy_o_2), .int (iI fhx_o_3), .int (iI fhy_o_4)])), (aO, .inl (gl.1, 1, .inr (.inl lo)))] H := hP
      have hD : va_D A [(aR, .inr (10, [.ref aG, .ref aP, .ref aH, .ref aY, .ref aT, .ref aS, .ref aF, .ref aX, .int (iI pr), .int (iI tk), .int (iI tol), .int (iI hou)])), (aT, .inr (8, [.ref aTp, .ref aTt, .ref aTx, .ref aTy, .ref aE, .int (iI ld)])), (aTx, .inl (gI g, 200, .inl (ar kx))), (aTy, .inl (gI g, 200, .inl (ar ky))), (aP, .inr (5, [.ref aPx, .ref aPy, .int (iI pn)])), (aPx, .inl (gI g, 200, .inl (ar bx))), (aPy, .inl (gI g, 200, .inl (ar byy))), (aF, .inr (2, [.int (iI fx_o_1), .int (iI fy_o_2), .int (iI fhx_o_3), .int (iI fhy_o_4)])), (aO, .inl (gl.1, 1, .inr (.inl lo)))] := hD
      have hv_5 : v_5 = aI (kx rg - plO pn bx (rg + 1)) + aI (ky rg - plO pn byy (rg + 1)) := hv_5
      obtain ⟨tv_5, pv_5⟩ := pv_5
      have tv_5 : rgT ld rg = 0 := tv_5
      refine x_i2z hx hb dL_deviationAfter_7 ?_
      refine va_last hx hb hL.1 hP hD hS 8 0 rfl rfl zl_in dL_deviationAfter_8 (fun H locs hP hD hS => ?_)
      have hP : va_P (gD g) vwCl [(aR, .inr (10, [.ref aG, .ref aP, .ref aH, .ref aY, .ref aT, .ref aS, .ref aF, .ref aX, .int (iI pr), .int (iI tk), .int (iI tol), .int (iI hou)])), (aT, .inr (8, [.ref aTp, .ref aTt, .ref aTx, .ref aTy, .ref aE, .int (iI ld)])), (aTx, .inl (gI g, 200, .inl (ar kx))), (aTy, .inl (gI g, 200, .inl (ar ky))), (aP, .inr (5, [.ref aPx, .ref aPy, .int (iI pn)])), (aPx, .inl (gI g, 200, .inl (ar bx))), (aPy, .inl (gI g, 200, .inl (ar byy))), (aF, .inr (2, [.int (iI fx_o_1), .int (iI fy_o_2), .int (iI fhx_o_3), .int (iI fhy_o_4)])), (aO, .inl (gl.1, 1, .inr (.inl (vp_updL lo (iI 0).toNatClampNeg (zL v_5)))))] H := hP
      have hD : va_D A [(aR, .inr (10, [.ref aG, .ref aP, .ref aH, .ref aY, .ref aT, .ref aS, .ref aF, .ref aX, .int (iI pr), .int (iI tk), .int (iI tol), .int (iI hou)])), (aT, .inr (8, [.ref aTp, .ref aTt, .ref aTx, .ref aTy, .ref aE, .int (iI ld)])), (aTx, .inl (gI g, 200, .inl (ar kx))), (aTy, .inl (gI g, 200, .inl (ar ky))), (aP, .inr (5, [.ref aPx, .ref aPy, .int (iI pn)])), (aPx, .inl (gI g, 200, .inl (ar bx))), (aPy, .inl (gI g, 200, .inl (ar byy))), (aF, .inr (2, [.int (iI fx_o_1), .int (iI fy_o_2), .int (iI fhx_o_3), .int (iI fhy_o_4)])), (aO, .inl (gl.1, 1, .inr (.inl (vp_updL lo (iI 0).toNatClampNeg (zL v_5)))))] := hD
      refine lv_goto (tgt := 15) hx hb dL_deviationAfter_9 (by decide) ?_
      refine x_iconst hx hb dL_deviationAfter_15 ?_
      rw [hQ9]
      exact x_iret hx hb hr hlocks hP hD hS (S := Int × Int × Int × Int × (Nat → Int64)) rfl dL_deviationAfter_16 ⟨fx_o_1, fy_o_2, fhx_o_3, fhy_o_4, (vp_updL lo (iI 0).toNatClampNeg (zL v_5))⟩ (by
          first
          | (
             first | omega | (subst_vars; omega))
          | fail "q9") (by
          first
          | (
             intro h0
             first | (exfalso; omega) | ((try dsimp only); rw [zl_up]; subst_vars; rfl) | ((try dsimp only); rw [zl_up]; congr 1))
          | fail "q9") rfl (Nat.le_of_ble_eq_true rfl) (Nat.le_of_ble_eq_true rfl)
  rw [hH, hlo, hQ9] at goal_
  exact goal_

set_option maxHeartbeats 4000000 in
set_option maxRecDepth 100000 in
theorem c_L_deviationWith (l : Launch) (hflags : l.stackTraces = false) (g : xg) (gl : ClassId × ClassId) (sz : Nat) (aR aG aP aH aY aT aS aF aX aTp aTt aTx aTy aE aPx aPy aQ aSt aSx aSy aYh aYt aYc aO : Nat) (pr tk tol hou ld ex ey ehx ehy pn fx fy fhx fhy sr sl qx qy qhx qhy sta po : Int) (bx byy st sx sy ht yt : Int → Int) (kx : Int → Int) (ky : Int → Int) (lo : Nat → Int64) (hld : 0 ≤ ld ∧ ld ≤ 200) (hpn : 0 ≤ pn ∧ pn ≤ 200) (hb_bx : bnd bx (-5) 5) (hb_byy : bnd byy (-5) 5) (hb_yt : bnd yt 0 9) (hb_ht : bnd ht 0 12) (hehx : -2000 ≤ ehx ∧ ehx ≤ 2000) (hehy : -2000 ≤ ehy ∧ ehy ≤ 2000) (hex : -400000 ≤ ex ∧ ex ≤ 400000) (hey : -400000 ≤ ey ∧ ey ≤ 400000) (hb_st : bnd st 0 9) (hb_sx : bnd sx (-5) 5) (hb_sy : bnd sy (-5) 5) (helx : ex = lastF ld kx) (hely : ey = lastF ld ky) (hr_sta : iR sta) (hr_po : iR po) : Met l yL_deviationWith wsL_deviationWith { frames := 8, cells := 3, slots := 18, locals := 136 } (va_Pc [.ref aR, .int (iI sta), .int (iI po), .ref aO] (xBL g gl [(aR, .inr (10, [.ref aG, .ref aP, .ref aH, .ref aY, .ref aT, .ref aS, .ref aF, .ref aX, .int (iI pr), .int (iI tk), .int (iI tol), .int (iI hou)])), (aT, .inr (8, [.ref aTp, .ref aTt, .ref aTx, .ref aTy, .ref aE, .int (iI ld)])), (aE, .inr (2, [.int (iI ex), .int (iI ey), .int (iI ehx), .int (iI ehy)])), (aP, .inr (5, [.ref aPx, .ref aPy, .int (iI pn)])), (aPx, .inl (gI g, 200, .inl (ar bx))), (aPy, .inl (gI g, 200, .inl (ar byy))), (aF, .inr (2, [.int (iI fx), .int (iI fy), .int (iI fhx), .int (iI fhy)])), (aS, .inr (6, [.ref aQ, .ref aSt, .ref aSx, .ref aSy, .int (iI sr), .int (iI sl)])), (aQ, .inr (2, [.int (iI qx), .int (iI qy), .int (iI qhx), .int (iI qhy)])), (aSt, .inl (gI g, 4, .inl (ar st))), (aSx, .inl (gI g, 4, .inl (ar sx))), (aSy, .inl (gI g, 4, .inl (ar sy))), (aY, .inr (9, [.ref aYh, .ref aYt, .ref aYc])), (aYh, .inl (gI g, 3, .inl (ar ht))), (aYt, .inl (gI g, 36, .inl (ar yt))), (aO, .inl (gl.1, 1, .inr (.inl lo)))] sz)) (va_Qi (fun r u => r = iI ((fun (u : Int × Int × Int × Int × Int × Int × Int × Int × Int × Int × (Int → Int) × (Int → Int) × (Int → Int) × (Nat → Int64)) => dwT ht sta po) u) ∧ (fun (u : Int × Int × Int × Int × Int × Int × Int × Int × Int × Int × (Int → Int) × (Int → Int) × (Int → Int) × (Nat → Int64)) => (dwT ht sta po = 0 → u.2.2.2.2.2.2.2.2.2.2.2.2.2 0 = zL (devF pn bx byy kx ky ld ehx ehy (yt (sta * 12 + (ht sta - 1))) po)) ∧ bnd u.2.2.2.2.2.2.2.2.2.2.1 0 9 ∧ bnd u.2.2.2.2.2.2.2.2.2.2.2.1 (-5) 5 ∧ bnd u.2.2.2.2.2.2.2.2.2.2.2.2.1 (-5) 5) u) (fun u t => xE g (va_A [(aR, .inr (10, [.ref aG, .ref aP, .ref aH, .ref aY, .ref aT, .ref aS, .ref aF, .ref aX, .int (iI pr), .int (iI tk), .int (iI tol), .int (iI hou)])), (aT, .inr (8, [.ref aTp, .ref aTt, .ref aTx, .ref aTy, .ref aE, .int (iI ld)])), (aE, .inr (2, [.int (iI ex), .int (iI ey), .int (iI ehx), .int (iI ehy)])), (aP, .inr (5, [.ref aPx, .ref aPy, .int (iI pn)])), (aPx, .inl (gI g, 200, .inl (ar bx))), (aPy, .inl (gI g, 200, .inl (ar byy))), (aF, .inr (2, [.int (iI fx), .int (iI fy), .int (iI fhx), .int (iI fhy)])), (aS, .inr (6, [.ref aQ, .ref aSt, .ref aSx, .ref aSy, .int (iI sr), .int (iI sl)])), (aQ, .inr (2, [.int (iI qx), .int (iI qy), .int (iI qhx), .int (iI qhy)])), (aSt, .inl (gI g, 4, .inl (ar st))), (aSx, .inl (gI g, 4, .inl (ar sx))), (aSy, .inl (gI g, 4, .inl (ar sy))), (aY, .inr (9, [.ref aYh, .ref aYt, .ref aYc])), (aYh, .inl (gI g, 3, .inl (ar ht))), (aYt, .inl (gI g, 36, .inl (ar yt))), (aO, .inl (gl.1, 1, .inr (.inl lo)))] sz) ((fun (u : Int × Int × Int × Int × Int × Int × Int × Int × Int × Int × (Int → Int) × (Int → Int) × (Int → Int) × (Nat → Int64)) => [(aR, .inr (10, [.ref aG, .ref aP, .ref aH, .ref aY, .ref aT, .ref aS, .ref aF, .ref aX, .int (iI pr), .int (iI tk), .int (iI tol), .int (iI hou)])), (aT, .inr (8, [.ref aTp, .ref aTt, .ref aTx, .ref aTy, .ref aE, .int (iI ld)])), (aE, .inr (2, [.int (iI ex), .int (iI ey), .int (iI ehx), .int (iI ehy)])), (aP, .inr (5, [.ref aPx, .ref aPy, .int (iI pn)])), (aPx, .inl (gI g, 200, .inl (ar bx))), (aPy, .inl (gI g, 200, .inl (ar byy))), (aF, .inr (2, [.int (iI u.1), .int (iI u.2.1), .int (iI u.2.2.1), .int (iI u.2.2.2.1)])), (aS, .inr (6, [.ref aQ, .ref aSt, .ref aSx, .ref aSy, .int (iI u.2.2.2.2.2.2.2.2.1), .int (iI u.2.2.2.2.2.2.2.2.2.1)])), (aQ, .inr (2, [.int (iI u.2.2.2.2.1), .int (iI u.2.2.2.2.2.1), .int (iI u.2.2.2.2.2.2.1), .int (iI u.2.2.2.2.2.2.2.1)])), (aSt, .inl (gI g, 4, .inl (ar u.2.2.2.2.2.2.2.2.2.2.1))), (aSx, .inl (gI g, 4, .inl (ar u.2.2.2.2.2.2.2.2.2.2.2.1))), (aSy, .inl (gI g, 4, .inl (ar u.2.2.2.2.2.2.2.2.2.2.2.2.1))), (aY, .inr (9, [.ref aYh, .ref aYt, .ref aYc])), (aYh, .inl (gI g, 3, .inl (ar ht))), (aYt, .inl (gI g, 36, .inl (ar yt))), (aO, .inl (gl.1, 1, .inr (.inl u.2.2.2.2.2.2.2.2.2.2.2.2.2)))]) u) t) (va_A [(aR, .inr (10, [.ref aG, .ref aP, .ref aH, .ref aY, .ref aT, .ref aS, .ref aF, .ref aX, .int (iI pr), .int (iI tk), .int (iI tol), .int (iI hou)])), (aT, .inr (8, [.ref aTp, .ref aTt, .ref aTx, .ref aTy, .ref aE, .int (iI ld)])), (aE, .inr (2, [.int (iI ex), .int (iI ey), .int (iI ehx), .int (iI ehy)])), (aP, .inr (5, [.ref aPx, .ref aPy, .int (iI pn)])), (aPx, .inl (gI g, 200, .inl (ar bx))), (aPy, .inl (gI g, 200, .inl (ar byy))), (aF, .inr (2, [.int (iI fx), .int (iI fy), .int (iI fhx), .int (iI fhy)])), (aS, .inr (6, [.ref aQ, .ref aSt, .ref aSx, .ref aSy, .int (iI sr), .int (iI sl)])), (aQ, .inr (2, [.int (iI qx), .int (iI qy), .int (iI qhx), .int (iI qhy)])), (aSt, .inl (gI g, 4, .inl (ar st))), (aSx, .inl (gI g, 4, .inl (ar sx))), (aSy, .inl (gI g, 4, .inl (ar sy))), (aY, .inr (9, [.ref aYh, .ref aYt, .ref aYc])), (aYh, .inl (gI g, 3, .inl (ar ht))), (aYt, .inl (gI g, 36, .inl (ar yt))), (aO, .inl (gl.1, 1, .inr (.inl lo)))] sz)) 3 18 (va_A [(aR, .inr (10, [.ref aG, .ref aP, .ref aH, .ref aY, .ref aT, .ref aS, .ref aF, .ref aX, .int (iI pr), .int (iI tk), .int (iI tol), .int (iI hou)])), (aT, .inr (8, [.ref aTp, .ref aTt, .ref aTx, .ref aTy, .ref aE, .int (iI ld)])), (aE, .inr (2, [.int (iI ex), .int (iI ey), .int (iI ehx), .int (iI ehy)])), (aP, .inr (5, [.ref aPx, .ref aPy, .int (iI pn)])), (aPx, .inl (gI g, 200, .inl (ar bx))), (aPy, .inl (gI g, 200, .inl (ar byy))), (aF, .inr (2, [.int (iI fx), .int (iI fy), .int (iI fhx), .int (iI fhy)])), (aS, .inr (6, [.ref aQ, .ref aSt, .ref aSx, .ref aSy, .int (iI sr), .int (iI sl)])), (aQ, .inr (2, [.int (iI qx), .int (iI qy), .int (iI qhx), .int (iI qhy)])), (aSt, .inl (gI g, 4, .inl (ar st))), (aSx, .inl (gI g, 4, .inl (ar sx))), (aSy, .inl (gI g, 4, .inl (ar sy))), (aY, .inr (9, [.ref aYh, .ref aYt, .ref aYc])), (aYh, .inl (gI g, 3, .inl (ar ht))), (aYt, .inl (gI g, 36, .inl (ar yt))), (aO, .inl (gl.1, 1, .inr (.inl lo)))] sz) := by
  refine x_enterH (y := yL_deviationWith) (ws := wsL_deviationWith) (g := g) (sz := sz) (av := [.ref aR, .int (iI sta), .int (iI po), .ref aO]) (WS := [(aR, .inr (10, [.ref aG, .ref aP, .ref aH, .ref aY, .ref aT, .ref aS, .ref aF, .ref aX, .int (iI pr), .int (iI tk), .int (iI tol), .int (iI hou)])), (aT, .inr (8, [.ref aTp, .ref aTt, .ref aTx, .ref aTy, .ref aE, .int (iI ld)])), (aE, .inr (2, [.int (iI ex), .int (iI ey), .int (iI ehx), .int (iI ehy)])), (aP, .inr (5, [.ref aPx, .ref aPy, .int (iI pn)])), (aPx, .inl (gI g, 200, .inl (ar bx))), (aPy, .inl (gI g, 200, .inl (ar byy))), (aF, .inr (2, [.int (iI fx), .int (iI fy), .int (iI fhx), .int (iI fhy)])), (aS, .inr (6, [.ref aQ, .ref aSt, .ref aSx, .ref aSy, .int (iI sr), .int (iI sl)])), (aQ, .inr (2, [.int (iI qx), .int (iI qy), .int (iI qhx), .int (iI qhy)])), (aSt, .inl (gI g, 4, .inl (ar st))), (aSx, .inl (gI g, 4, .inl (ar sx))), (aSy, .inl (gI g, 4, .inl (ar sy))), (aY, .inr (9, [.ref aYh, .ref aYt, .ref aYc])), (aYh, .inl (gI g, 3, .inl (ar ht))), (aYt, .inl (gI g, 36, .inl (ar yt))), (aO, .inl (gl.1, 1, .inr (.inl lo)))]) (cc := cL_deviationWith) (maxL := 5) (ret := some .int) (Qc := (fun A => (va_Qi (fun r u => r = iI ((fun (u : Int × Int × Int × Int × Int × Int × Int × Int × Int × Int × (Int → Int) × (Int → Int) × (Int → Int) × (Nat → Int64)) => dwT ht sta po) u) ∧ (fun (u : Int × Int × Int × Int × Int × Int × Int × Int × Int × Int × (Int → Int) × (Int → Int) × (Int → Int) × (Nat → Int64)) => (dwT ht sta po = 0 → u.2.2.2.2.2.2.2.2.2.2.2.2.2 0 = zL (devF pn bx byy kx ky ld ehx ehy (yt (sta * 12 + (ht sta - 1))) po)) ∧ bnd u.2.2.2.2.2.2.2.2.2.2.1 0 9 ∧ bnd u.2.2.2.2.2.2.2.2.2.2.2.1 (-5) 5 ∧ bnd u.2.2.2.2.2.2.2.2.2.2.2.2.1 (-5) 5) u) (fun u t => xE g A ((fun (u : Int × Int × Int × Int × Int × Int × Int × Int × Int × Int × (Int → Int) × (Int → Int) × (Int → Int) × (Nat → Int64)) => [(aR, .inr (10, [.ref aG, .ref aP, .ref aH, .ref aY, .ref aT, .ref aS, .ref aF, .ref aX, .int (iI pr), .int (iI tk), .int (iI tol), .int (iI hou)])), (aT, .inr (8, [.ref aTp, .ref aTt, .ref aTx, .ref aTy, .ref aE, .int (iI ld)])), (aE, .inr (2, [.int (iI ex), .int (iI ey), .int (iI ehx), .int (iI ehy)])), (aP, .inr (5, [.ref aPx, .ref aPy, .int (iI pn)])), (aPx, .inl (gI g, 200, .inl (ar bx))), (aPy, .inl (gI g, 200, .inl (ar byy))), (aF, .inr (2, [.int (iI u.1), .int (iI u.2.1), .int (iI u.2.2.1), .int (iI u.2.2.2.1)])), (aS, .inr (6, [.ref aQ, .ref aSt, .ref aSx, .ref aSy, .int (iI u.2.2.2.2.2.2.2.2.1), .int (iI u.2.2.2.2.2.2.2.2.2.1)])), (aQ, .inr (2, [.int (iI u.2.2.2.2.1), .int (iI u.2.2.2.2.2.1), .int (iI u.2.2.2.2.2.2.1), .int (iI u.2.2.2.2.2.2.2.1)])), (aSt, .inl (gI g, 4, .inl (ar u.2.2.2.2.2.2.2.2.2.2.1))), (aSx, .inl (gI g, 4, .inl (ar u.2.2.2.2.2.2.2.2.2.2.2.1))), (aSy, .inl (gI g, 4, .inl (ar u.2.2.2.2.2.2.2.2.2.2.2.2.1))), (aY, .inr (9, [.ref aYh, .ref aYt, .ref aYc])), (aYh, .inl (gI g, 3, .inl (ar ht))), (aYt, .inl (gI g, 36, .inl (ar yt))), (aO, .inl (gl.1, 1, .inr (.inl u.2.2.2.2.2.2.2.2.2.2.2.2.2)))]) u) t) A))) (by decide) rfl (Nat.le_of_ble_eq_true rfl) ?_
  intro p e s m args below meth c A ls hx hb hr hml hown hts hlocks htab hL hC hP hD hS hA hl
  have hK := hC.1
  have hown : s.vm.findClass RL = some m.cls := hown
  have hl : lv_has ls 5 [(0, .ref aR), (1, .int (iI sta)), (2, .int (iI po)), (3, .ref aO)] := hl
  obtain ⟨H, hH⟩ : ∃ z, z = s.heap := ⟨_, rfl⟩
  obtain ⟨locs, hlo⟩ : ∃ z : List Loc, z = [] := ⟨_, rfl⟩
  obtain ⟨Q9, hQ9⟩ : ∃ z, z = MQ below (va_Qi (fun r u => r = iI ((fun (u : Int × Int × Int × Int × Int × Int × Int × Int × Int × Int × (Int → Int) × (Int → Int) × (Int → Int) × (Nat → Int64)) => dwT ht sta po) u) ∧ (fun (u : Int × Int × Int × Int × Int × Int × Int × Int × Int × Int × (Int → Int) × (Int → Int) × (Int → Int) × (Nat → Int64)) => (dwT ht sta po = 0 → u.2.2.2.2.2.2.2.2.2.2.2.2.2 0 = zL (devF pn bx byy kx ky ld ehx ehy (yt (sta * 12 + (ht sta - 1))) po)) ∧ bnd u.2.2.2.2.2.2.2.2.2.2.1 0 9 ∧ bnd u.2.2.2.2.2.2.2.2.2.2.2.1 (-5) 5 ∧ bnd u.2.2.2.2.2.2.2.2.2.2.2.2.1 (-5) 5) u) (fun u t => xE g A ((fun (u : Int × Int × Int × Int × Int × Int × Int × Int × Int × Int × (Int → Int) × (Int → Int) × (Int → Int) × (Nat → Int64)) => [(aR, .inr (10, [.ref aG, .ref aP, .ref aH, .ref aY, .ref aT, .ref aS, .ref aF, .ref aX, .int (iI pr), .int (iI tk), .int (iI tol), .int (iI hou)])), (aT, .inr (8, [.ref aTp, .ref aTt, .ref aTx, .ref aTy, .ref aE, .int (iI ld)])), (aE, .inr (2, [.int (iI ex), .int (iI ey), .int (iI ehx), .int (iI ehy)])), (aP, .inr (5, [.ref aPx, .ref aPy, .int (iI pn)])), (aPx, .inl (gI g, 200, .inl (ar bx))), (aPy, .inl (gI g, 200, .inl (ar byy))), (aF, .inr (2, [.int (iI u.1), .int (iI u.2.1), .int (iI u.2.2.1), .int (iI u.2.2.2.1)])), (aS, .inr (6, [.ref aQ, .ref aSt, .ref aSx, .ref aSy, .int (iI u.2.2.2.2.2.2.2.2.1), .int (iI u.2.2.2.2.2.2.2.2.2.1)])), (aQ, .inr (2, [.int (iI u.2.2.2.2.1), .int (iI u.2.2.2.2.2.1), .int (iI u.2.2.2.2.2.2.1), .int (iI u.2.2.2.2.2.2.2.1)])), (aSt, .inl (gI g, 4, .inl (ar u.2.2.2.2.2.2.2.2.2.2.1))), (aSx, .inl (gI g, 4, .inl (ar u.2.2.2.2.2.2.2.2.2.2.2.1))), (aSy, .inl (gI g, 4, .inl (ar u.2.2.2.2.2.2.2.2.2.2.2.2.1))), (aY, .inr (9, [.ref aYh, .ref aYt, .ref aYc])), (aYh, .inl (gI g, 3, .inl (ar ht))), (aYt, .inl (gI g, 36, .inl (ar yt))), (aO, .inl (gl.1, 1, .inr (.inl u.2.2.2.2.2.2.2.2.2.2.2.2.2)))]) u) t) A) args s 3 18 A := ⟨_, rfl⟩
  have hP : va_P (gD g) vwCl [(aR, .inr (10, [.ref aG, .ref aP, .ref aH, .ref aY, .ref aT, .ref aS, .ref aF, .ref aX, .int (iI pr), .int (iI tk), .int (iI tol), .int (iI hou)])), (aT, .inr (8, [.ref aTp, .ref aTt, .ref aTx, .ref aTy, .ref aE, .int (iI ld)])), (aE, .inr (2, [.int (iI ex), .int (iI ey), .int (iI ehx), .int (iI ehy)])), (aP, .inr (5, [.ref aPx, .ref aPy, .int (iI pn)])), (aPx, .inl (gI g, 200, .inl (ar bx))), (aPy, .inl (gI g, 200, .inl (ar byy))), (aF, .inr (2, [.int (iI fx), .int (iI fy), .int (iI fhx), .int (iI fhy)])), (aS, .inr (6, [.ref aQ, .ref aSt, .ref aSx, .ref aSy, .int (iI sr), .int (iI sl)])), (aQ, .inr (2, [.int (iI qx), .int (iI qy), .int (iI qhx), .int (iI qhy)])), (aSt, .inl (gI g, 4, .inl (ar st))), (aSx, .inl (gI g, 4, .inl (ar sx))), (aSy, .inl (gI g, 4, .inl (ar sy))), (aY, .inr (9, [.ref aYh, .ref aYt, .ref aYc])), (aYh, .inl (gI g, 3, .inl (ar ht))), (aYt, .inl (gI g, 36, .inl (ar yt))), (aO, .inl (gl.1, 1, .inr (.inl lo)))] H := by rw [hH]; exact hP
  have hS : va_S A s.heap H locs := by rw [hH, hlo]; exact hS
  have goal_ : W p l e { frames := 8, cells := 3, slots := 18, locals := 136 } s m args below meth c H locs 0 0 Q9 (F0 m 0 ls []) := by
    clear hH hlo
    refine lv_aload_n hx hb dL_deviationWith_0 rfl (lv_at hl 3 rfl) ?_
    refine x_iconst hx hb dL_deviationWith_1 ?_
    refine lv_aload_n hx hb dL_deviationWith_2 rfl (lv_at hl 0 rfl) ?_
    refine lv_iload_n hx hb dL_deviationWith_3 rfl (lv_at hl 1 rfl) ?_
    refine lv_iload_n hx hb dL_deviationWith_4 rfl (lv_at hl 2 rfl) ?_
    refine x_calliX (S := Int × Int × Int × Int × Int × Int × Int × Int × Int × Int × (Int → Int) × (Int → Int) × (Int → Int)) (SX := Unit) (wc := [(aR, .inr (10, [.ref aG, .ref aP, .ref aH, .ref aY, .ref aT, .ref aS, .ref aF, .ref aX, .int (iI pr), .int (iI tk), .int (iI tol), .int (iI hou)])), (aT, .inr (8, [.ref aTp, .ref aTt, .ref aTx, .ref aTy, .ref aE, .int (iI ld)])), (aE, .inr (2, [.int (iI ex), .int (iI ey), .int (iI ehx), .int (iI ehy)])), (aP, .inr (5, [.ref aPx, .ref aPy, .int (iI pn)])), (aPx, .inl (gI g, 200, .inl (ar bx))), (aPy, .inl (gI g, 200, .inl (ar byy))), (aF, .inr (2, [.int (iI fx), .int (iI fy), .int (iI fhx), .int (iI fhy)])), (aS, .inr (6, [.ref aQ, .ref aSt, .ref aSx, .ref aSy, .int (iI sr), .int (iI sl)])), (aQ, .inr (2, [.int (iI qx), .int (iI qy), .int (iI qhx), .int (iI qhy)])), (aSt, .inl (gI g, 4, .inl (ar st))), (aSx, .inl (gI g, 4, .inl (ar sx))), (aSy, .inl (gI g, 4, .inl (ar sy))), (aY, .inr (9, [.ref aYh, .ref aYt, .ref aYc])), (aYh, .inl (gI g, 3, .inl (ar ht))), (aYt, .inl (gI g, 36, .inl (ar yt)))]) (wr := [(aO, .inl (gl.1, 1, .inr (.inl lo)))]) hC hP hD hS hA [0, 1, 2, 3, 4, 5, 6, 7, 8, 9, 10, 11, 12, 13, 14] [15] [1, 2, 3, 4, 5, 6, 7, 8, 9, 10, 11, 12, 13, 14, 15, 0] rfl rfl (fun hpre => vx_runV (As := [.int (iI sta), .int (iI po)]) (rest := [.int (iI 0), .ref aO]) ⟨hx, hb, hml, hown, hts⟩ (c_X8_deviationWith l hflags g H.size aR aG aP aH aY aT aS aF aX aTp aTt aTx aTy aE aPx aPy aQ aSt aSx aSy aYh aYt aYc pr tk tol hou ld ex ey ehx ehy pn fx fy fhx fhy sr sl qx qy qhx qhy sta po bx byy st sx sy ht yt kx ky (by first | (first | assumption | omega | exact bnd_up (by assumption) (by omega) (by omega)) | fail "q8") (by first | (first | assumption | omega | exact bnd_up (by assumption) (by omega) (by omega)) | fail "q8") (by first | (first | assumption | omega | exact bnd_up (by assumption) (by omega) (by omega)) | fail "q8") (by first | (first | assumption | omega | exact bnd_up (by assumption) (by omega) (by omega)) | fail "q8") (by first | (first | assumption | omega | exact bnd_up (by assumption) (by omega) (by omega)) | fail "q8") (by first | (first | assumption | omega | exact bnd_up (by assumption) (by omega) (by omega)) | fail "q8") (by first | (first | assumption | omega | exact bnd_up (by assumption) (by omega) (by omega)) | fail "q8") (by first | (first | assumption | omega | exact bnd_up (by assumption) (by omega) (by omega)) | fail "q8") (by first | (first | assumption | omega | exact bnd_up (by assumption) (by omega) (by omega)) | fail "q8") (by first | (first | assumption | omega | exact bnd_up (by assumption) (by omega) (by omega)) | fail "q8") (by first | (first | assumption | omega | exact bnd_up (by assumption) (by omega) (by omega)) | fail "q8") (by first | (first | assumption | omega | exact bnd_up (by assumption) (by omega) (by omega)) | fail "q8") (by first | (first | assumption | omega | exact bnd_up (by assumption) (by omega) (by omega)) | fail "q8") (by first | (first | assumption | omega | exact bnd_up (by assumption) (by omega) (by omega)) | fail "q8") (by first | (first | assumption | omega | exact bnd_up (by assumption) (by omega) (by omega)) | fail "q8") (by first | (first | assumption | omega | exact bnd_up (by assumption) (by omega) (by omega)) | fail "q8") (by first | (first | assumption | omega | exact bnd_up (by assumption) (by omega) (by omega)) | fail "q8")) (cwV 2 hts gL_deviationWith_X8_deviationWith rfl rfl rfl (by decide +kernel) ⟨Nat.le_of_ble_eq_true rfl, Nat.le_of_ble_eq_true rfl⟩) ⟨xB_blind, va_recv hK hP (ci := 10) (q0 := 0) rfl rfl, hpre _⟩ rfl rfl hl.1 rfl (lv_room (Nat.le_of_ble_eq_true rfl)) dL_deviationWith_5 ⟨Nat.le_of_ble_eq_true rfl, Nat.le_of_ble_eq_true rfl⟩) (fun (u : Int × Int × Int × Int × Int × Int × Int × Int × Int × Int × (Int → Int) × (Int → Int) × (Int → Int)) => [(aR, .inr (10, [.ref aG, .ref aP, .ref aH, .ref aY, .ref aT, .ref aS, .ref aF, .ref aX, .int (iI pr), .int (iI tk), .int (iI tol), .int (iI hou)])), (aT, .inr (8, [.ref aTp, .ref aTt, .ref aTx, .ref aTy, .ref aE, .int (iI ld)])), (aE, .inr (2, [.int (iI ex), .int (iI ey), .int (iI ehx), .int (iI ehy)])), (aP, .inr (5, [.ref aPx, .ref aPy, .int (iI pn)])), (aPx, .inl (gI g, 200, .inl (ar bx))), (aPy, .inl (gI g, 200, .inl (ar byy))), (aF, .inr (2, [.int (iI u.1), .int (iI u.2.1), .int (iI u.2.2.1), .int (iI u.2.2.2.1)])), (aS, .inr (6, [.ref aQ, .ref aSt, .ref aSx, .ref aSy, .int (iI u.2.2.2.2.2.2.2.2.1), .int (iI u.2.2.2.2.2.2.2.2.2.1)])), (aQ, .inr (2, [.int (iI u.2.2.2.2.1), .int (iI u.2.2.2.2.2.1), .int (iI u.2.2.2.2.2.2.1), .int (iI u.2.2.2.2.2.2.2.1)])), (aSt, .inl (gI g, 4, .inl (ar u.2.2.2.2.2.2.2.2.2.2.1))), (aSx, .inl (gI g, 4, .inl (ar u.2.2.2.2.2.2.2.2.2.2.2.1))), (aSy, .inl (gI g, 4, .inl (ar u.2.2.2.2.2.2.2.2.2.2.2.2))), (aY, .inr (9, [.ref aYh, .ref aYt, .ref aYc])), (aYh, .inl (gI g, 3, .inl (ar ht))), (aYt, .inl (gI g, 36, .inl (ar yt))), (aO, .inl (gl.1, 1, .inr (.inl lo)))]) (fun (u : Unit) => ([(aR, .inr (10, [.ref aG, .ref aP, .ref aH, .ref aY, .ref aT, .ref aS, .ref aF, .ref aX, .int (iI pr), .int (iI tk), .int (iI tol), .int (iI hou)])), (aT, .inr (8, [.ref aTp, .ref aTt, .ref aTx, .ref aTy, .ref aE, .int (iI ld)])), (aE, .inr (2, [.int (iI ex), .int (iI ey), .int (iI ehx), .int (iI ehy)])), (aP, .inr (5, [.ref aPx, .ref aPy, .int (iI pn)])), (aPx, .inl (gI g, 200, .inl (ar bx))), (aPy, .inl (gI g, 200, .inl (ar byy))), (aF, .inr (2, [.int (iI fx), .int (iI fy), .int (iI fhx), .int (iI fhy)])), (aS, .inr (6, [.ref aQ, .ref aSt, .ref aSx, .ref aSy, .int (iI sr), .int (iI sl)])), (aQ, .inr (2, [.int (iI qx), .int (iI qy), .int (iI qhx), .int (iI qhy)])), (aSt, .inl (gI g, 4, .inl (ar st))), (aSx, .inl (gI g, 4, .inl (ar sx))), (aSy, .inl (gI g, 4, .inl (ar sy))), (aY, .inr (9, [.ref aYh, .ref aYt, .ref aYc])), (aYh, .inl (gI g, 3, .inl (ar ht))), (aYt, .inl (gI g, 36, .inl (ar yt))), (aO, .inl (gl.1, 1, .inr (.inl lo)))] : va_W)) rfl rfl (by decide) (fun _ => rfl) (fun _ => rfl) rfl (fun E ce q9 u H locs hXP hPX hP hD hS hcell hv9 hcl => ?_) (fun u v_14 H locs hv_14 pv_14 hP hD hS => ?_)
    · skip
      have hP : va_P (gD g) vwCl [(aR, .inr (10, [.ref aG, .ref aP, .ref aH, .ref aY, .ref aT, .ref aS, .ref aF, .ref aX, .int (iI pr), .int (iI tk), .int (iI tol), .int (iI hou)])), (aT, .inr (8, [.ref aTp, .ref aTt, .ref aTx, .ref aTy, .ref aE, .int (iI ld)])), (aE, .inr (2, [.int (iI ex), .int (iI ey), .int (iI ehx), .int (iI ehy)])), (aP, .inr (5, [.ref aPx, .ref aPy, .int (iI pn)])), (aPx, .inl (gI g, 200, .inl (ar bx))), (aPy, .inl (gI g, 200, .inl (ar byy))), (aF, .inr (2, [.int (iI fx), .int (iI fy), .int (iI fhx), .int (iI fhy)])), (aS, .inr (6, [.ref aQ, .ref aSt, .ref aSx, .ref aSy, .int (iI sr), .int (iI sl)])), (aQ, .inr (2, [.int (iI qx), .int (iI qy), .int (iI qhx), .int (iI qhy)])), (aSt, .inl (gI g, 4, .inl (ar st))), (aSx, .inl (gI g, 4, .inl (ar sx))), (aSy, .inl (gI g, 4, .inl (ar sy))), (aY, .inr (9, [.ref aYh, .ref aYt, .ref aYc])), (aYh, .inl (gI g, 3, .inl (ar ht))), (aYt, .inl (gI g, 36, .inl (ar yt))), (aO, .inl (gl.1, 1, .inr (.inl lo)))] H := hP
      have hD : va_D A [(aR, .inr (10, [.ref aG, .ref aP, .ref aH, .ref aY, .ref aT, .ref aS, .ref aF, .ref aX, .int (iI pr), .int (iI tk), .int (iI tol), .int (iI hou)])), (aT, .inr (8, [.ref aTp, .ref aTt, .ref aTx, .ref aTy, .ref aE, .int (iI ld)])), (aE, .inr (2, [.int (iI ex), .int (iI ey), .int (iI ehx), .int (iI ehy)])), (aP, .inr (5, [.ref aPx, .ref aPy, .int (iI pn)])), (aPx, .inl (gI g, 200, .inl (ar bx))), (aPy, .inl (gI g, 200, .inl (ar byy))), (aF, .inr (2, [.int (iI fx), .int (iI fy), .int (iI fhx), .int (iI fhy)])), (aS, .inr (6, [.ref aQ, .ref aSt, .ref aSx, .ref aSy, .int (iI sr), .int (iI sl)])), (aQ, .inr (2, [.int (iI qx), .int (iI qy), .int (iI qhx), .int (iI qhy)])), (aSt, .inl (gI g, 4, .inl (ar st))), (aSx, .inl (gI g, 4, .inl (ar sx))), (aSy, .inl (gI g, 4, .inl (ar sy))), (aY, .inr (9, [.ref aYh, .ref aYt, .ref aYc])), (aYh, .inl (gI g, 3, .inl (ar ht))), (aYt, .inl (gI g, 36, .inl (ar yt))), (aO, .inl (gl.1, 1, .inr (.inl lo)))] := hD
      rcases hPX with ⟨hE, hp⟩ | ⟨hE, hp⟩ | ⟨hE, hp⟩
      · skip
        have hp : dwT ht sta po = 1 := hp
        subst hE
        refine vx_catch (E := "java/lang/IndexOutOfBoundsException") (name := "java/lang/IndexOutOfBoundsException") hown [] ⟨0, 10, 13, 24⟩ [⟨0, 10, 17, 13⟩, ⟨0, 10, 21, 43⟩] (by rw [htab]; rfl) (fun z hz => by cases hz) (by decide) (by decide) (hts (.classLink RL 24 "java/lang/IndexOutOfBoundsException") (List.mem_of_getElem? (i := 1) rfl)) (va_Nw.use rfl (hC.2.2.2.2.2.2.2.2.2.2.1 "java/lang/IndexOutOfBoundsException" (List.mem_of_getElem? (i := 2) rfl))) hcell hv9 hcl ?_
        refine lv_astore (lv' := [(4, .ref q9), (0, .ref aR), (1, .int (iI sta)), (2, .int (iI po)), (3, .ref aO)]) hx hb dL_deviationWith_13 hl (by decide) rfl (fun ls hl => ?_)
        refine x_iconst hx hb dL_deviationWith_15 ?_
        rw [hQ9]
        exact x_iret hx hb hr hlocks hP hD hS (S := Int × Int × Int × Int × Int × Int × Int × Int × Int × Int × (Int → Int) × (Int → Int) × (Int → Int) × (Nat → Int64)) rfl dL_deviationWith_16 ⟨fx, fy, fhx, fhy, qx, qy, qhx, qhy, sr, sl, st, sx, sy, lo⟩ (by
            first
            | (
               first | omega | (subst_vars; omega))
            | fail "q9") (by
            first
            | (
               refine ⟨fun h0 => ?_, ?_⟩
               · first | (exfalso; omega) | ((try dsimp only); rw [zl_up]; subst_vars; rfl) | ((try dsimp only); rw [zl_up]; congr 1)
               · first | exact hjk | exact hjk.2 | exact hXP | exact ⟨hb_st, hb_sx, hb_sy⟩)
            | fail "q9") rfl (Nat.le_of_ble_eq_true rfl) (Nat.le_of_ble_eq_true rfl)
      · skip
        have hp : dwT ht sta po = 2 := hp
        subst hE
        refine vx_catch (E := "java/lang/IllegalArgumentException") (name := "java/lang/IllegalArgumentException") hown [⟨0, 10, 13, 24⟩] ⟨0, 10, 17, 13⟩ [⟨0, 10, 21, 43⟩] (by rw [htab]; rfl) (fun z hz => by rcases List.mem_cons.mp hz with rfl | hz; exact Or.inr ⟨by decide, "java/lang/IndexOutOfBoundsException", (hts (.classLink RL 24 "java/lang/IndexOutOfBoundsException") (List.mem_of_getElem? (i := 1) rfl)), hL.2 ("java/lang/IllegalArgumentException", "java/lang/IndexOutOfBoundsException") (List.mem_of_getElem? (i := 1) (by decide +kernel))⟩; cases hz) (by decide) (by decide) (hts (.classLink RL 13 "java/lang/IllegalArgumentException") (List.mem_of_getElem? (i := 2) rfl)) (va_Nw.use rfl (hC.2.2.2.2.2.2.2.2.2.2.1 "java/lang/IllegalArgumentException" (List.mem_of_getElem? (i := 0) rfl))) hcell hv9 hcl ?_
        refine lv_astore (lv' := [(4, .ref q9), (0, .ref aR), (1, .int (iI sta)), (2, .int (iI po)), (3, .ref aO)]) hx hb dL_deviationWith_17 hl (by decide) rfl (fun ls hl => ?_)
        refine x_iconst hx hb dL_deviationWith_19 ?_
        rw [hQ9]
        exact x_iret hx hb hr hlocks hP hD hS (S := Int × Int × Int × Int × Int × Int × Int × Int × Int × Int × (Int → Int) × (Int → Int) × (Int → Int) × (Nat → Int64)) rfl dL_deviationWith_20 ⟨fx, fy, fhx, fhy, qx, qy, qhx, qhy, sr, sl, st, sx, sy, lo⟩ (by
            first
            | (
               first | omega | (subst_vars; omega))
            | fail "q9") (by
            first
            | (
               refine ⟨fun h0 => ?_, ?_⟩
               · first | (exfalso; omega) | ((try dsimp only); rw [zl_up]; subst_vars; rfl) | ((try dsimp only); rw [zl_up]; congr 1)
               · first | exact hjk | exact hjk.2 | exact hXP | exact ⟨hb_st, hb_sx, hb_sy⟩)
            | fail "q9") rfl (Nat.le_of_ble_eq_true rfl) (Nat.le_of_ble_eq_true rfl)
      · skip
        have hp : dwT ht sta po = 3 := hp
        subst hE
        refine vx_catch (E := "java/util/NoSuchElementException") (name := "java/util/NoSuchElementException") hown [⟨0, 10, 13, 24⟩, ⟨0, 10, 17, 13⟩] ⟨0, 10, 21, 43⟩ [] (by rw [htab]; rfl) (fun z hz => by rcases List.mem_cons.mp hz with rfl | hz; exact Or.inr ⟨by decide, "java/lang/IndexOutOfBoundsException", (hts (.classLink RL 24 "java/lang/IndexOutOfBoundsException") (List.mem_of_getElem? (i := 1) rfl)), hL.2 ("java/util/NoSuchElementException", "java/lang/IndexOutOfBoundsException") (List.mem_of_getElem? (i := 17) (by decide +kernel))⟩; rcases List.mem_cons.mp hz with rfl | hz; exact Or.inr ⟨by decide, "java/lang/IllegalArgumentException", (hts (.classLink RL 13 "java/lang/IllegalArgumentException") (List.mem_of_getElem? (i := 2) rfl)), hL.2 ("java/util/NoSuchElementException", "java/lang/IllegalArgumentException") (List.mem_of_getElem? (i := 15) (by decide +kernel))⟩; cases hz) (by decide) (by decide) (hts (.classLink RL 43 "java/util/NoSuchElementException") (List.mem_of_getElem? (i := 3) rfl)) (va_Nw.use rfl (hC.2.2.2.2.2.2.2.2.2.2.1 "java/util/NoSuchElementException" (List.mem_of_getElem? (i := 3) rfl))) hcell hv9 hcl ?_
        refine lv_astore (lv' := [(4, .ref q9), (0, .ref aR), (1, .int (iI sta)), (2, .int (iI po)), (3, .ref aO)]) hx hb dL_deviationWith_21 hl (by decide) rfl (fun ls hl => ?_)
        refine x_iconst hx hb dL_deviationWith_23 ?_
        rw [hQ9]
        exact x_iret hx hb hr hlocks hP hD hS (S := Int × Int × Int × Int × Int × Int × Int × Int × Int × Int × (Int → Int) × (Int → Int) × (Int → Int) × (Nat → Int64)) rfl dL_deviationWith_24 ⟨fx, fy, fhx, fhy, qx, qy, qhx, qhy, sr, sl, st, sx, sy, lo⟩ (by
            first
            | (
               first | omega | (subst_vars; omega))
            | fail "q9") (by
            first
            | (
               refine ⟨fun h0 => ?_, ?_⟩
               · first | (exfalso; omega) | ((try dsimp only); rw [zl_up]; subst_vars; rfl) | ((try dsimp only); rw [zl_up]; congr 1)
               · first | exact hjk | exact hjk.2 | exact hXP | exact ⟨hb_st, hb_sx, hb_sy⟩)
            | fail "q9") rfl (Nat.le_of_ble_eq_true rfl) (Nat.le_of_ble_eq_true rfl)
    · skip
      obtain ⟨fx_o_1, fy_o_2, fhx_o_3, fhy_o_4, qx_o_5, qy_o_6, qhx_o_7, qhy_o_8, sr_o_9, sl_o_10, st_o_11, sx_o_12, sy_o_13⟩ := u
      have hP : va_P (gD g) vwCl [(aR, .inr (10, [.ref aG, .ref aP, .ref aH, .ref aY, .ref aT, .ref aS, .ref aF, .ref aX, .int (iI pr), .int (iI tk), .int (iI tol), .int (iI hou)])), (aT, .inr (8, [.ref aTp, .ref aTt, .ref aTx, .ref aTy, .ref aE, .int (iI ld)])), (aE, .inr (2, [.int (iI ex), .int (iI ey), .int (iI ehx), .int (iI ehy)])), (aP, .inr (5, [.ref aPx, .ref aPy, .int (iI pn)])), (aPx, .inl (gI g, 200, .inl (ar bx))), (aPy, .inl (gI g, 200, .inl (ar byy))), (aF, .inr (2, [.int (iI fx_o_1), .int (iI fy_o_2), .int (iI fhx_o_3), .int (iI fhy_o_4)])), (aS, .inr (6, [.ref aQ, .ref aSt, .ref aSx, .ref aSy, .int (iI sr_o_9), .int (iI sl_o_10)])), (aQ, .inr (2, [.int (iI qx_o_5), .int (iI qy_o_6), .int (iI qhx_o_7), .int (iI qhy_o_8)])), (aSt, .inl (gI g, 4, .inl (ar st_o_11))), (aSx, .inl (gI g, 4, .inl (ar sx_o_12))), (aSy, .inl (gI g, 4, .inl (ar sy_o_13))), (aY, .inr (9, [.ref aYh, .ref aYt, .ref aYc])), (aYh, .inl (gI g, 3, .inl (ar ht))), (aYt, .inl (gI g, 36, .inl (ar yt))), (aO, .inl (gl.1, 1, .inr (.inl lo)))] H := hP
      have hD : va_D A [(aR, .inr (10, [.ref aG, .ref aP, .ref aH, .ref aY, .ref aT, .ref aS, .ref aF, .ref aX, .int (iI pr), .int (iI tk), .int (iI tol), .int (iI hou)])), (aT, .inr (8, [.ref aTp, .ref aTt, .ref aTx, .ref aTy, .ref aE, .int (iI ld)])), (aE, .inr (2, [.int (iI ex), .int (iI ey), .int (iI ehx), .int (iI ehy)])), (aP, .inr (5, [.ref aPx, .ref aPy, .int (iI pn)])), (aPx, .inl (gI g, 200, .inl (ar bx))), (aPy, .inl (gI g, 200, .inl (ar byy))), (aF, .inr (2, [.int (iI fx_o_1), .int (iI fy_o_2), .int (iI fhx_o_3), .int (iI fhy_o_4)])), (aS, .inr (6, [.ref aQ, .ref aSt, .ref aSx, .ref aSy, .int (iI sr_o_9), .int (iI sl_o_10)])), (aQ, .inr (2, [.int (iI qx_o_5), .int (iI qy_o_6), .int (iI qhx_o_7), .int (iI qhy_o_8)])), (aSt, .inl (gI g, 4, .inl (ar st_o_11))), (aSx, .inl (gI g, 4, .inl (ar sx_o_12))), (aSy, .inl (gI g, 4, .inl (ar sy_o_13))), (aY, .inr (9, [.ref aYh, .ref aYt, .ref aYc])), (aYh, .inl (gI g, 3, .inl (ar ht))), (aYt, .inl (gI g, 36, .inl (ar yt))), (aO, .inl (gl.1, 1, .inr (.inl lo)))] := hD
      have hv_14 : v_14 = devF pn bx byy kx ky ld ehx ehy (yt (sta * 12 + (ht sta - 1))) po := hv_14
      obtain ⟨tv_14, pv_14⟩ := pv_14
      have tv_14 : dwT ht sta po = 0 := tv_14
      have pv_14 : bnd st_o_11 0 9 ∧ bnd sx_o_12 (-5) 5 ∧ bnd sy_o_13 (-5) 5 := by first | exact pv_14 | (rw [hv_14]; exact pv_14)
      have hjk := pv_14
      refine x_i2z hx hb dL_deviationWith_8 ?_
      refine va_last hx hb hL.1 hP hD hS 15 0 rfl rfl zl_in dL_deviationWith_9 (fun H locs hP hD hS => ?_)
      have hP : va_P (gD g) vwCl [(aR, .inr (10, [.ref aG, .ref aP, .ref aH, .ref aY, .ref aT, .ref aS, .ref aF, .ref aX, .int (iI pr), .int (iI tk), .int (iI tol), .int (iI hou)])), (aT, .inr (8, [.ref aTp, .ref aTt, .ref aTx, .ref aTy, .ref aE, .int (iI ld)])), (aE, .inr (2, [.int (iI ex), .int (iI ey), .int (iI ehx), .int (iI ehy)])), (aP, .inr (5, [.ref aPx, .ref aPy, .int (iI pn)])), (aPx, .inl (gI g, 200, .inl (ar bx))), (aPy, .inl (gI g, 200, .inl (ar byy))), (aF, .inr (2, [.int (iI fx_o_1), .int (iI fy_o_2), .int (iI fhx_o_3), .int (iI fhy_o_4)])), (aS, .inr (6, [.ref aQ, .ref aSt, .ref aSx, .ref aSy, .int (iI sr_o_9), .int (iI sl_o_10)])), (aQ, .inr (2, [.int (iI qx_o_5), .int (iI qy_o_6), .int (iI qhx_o_7), .int (iI qhy_o_8)])), (aSt, .inl (gI g, 4, .inl (ar st_o_11))), (aSx, .inl (gI g, 4, .inl (ar sx_o_12))), (aSy, .inl (gI g, 4, .inl (ar sy_o_13))), (aY, .inr (9, [.ref aYh, .ref aYt, .ref aYc])), (aYh, .inl (gI g, 3, .inl (ar ht))), (aYt, .inl (gI g, 36, .inl (ar yt))), (aO, .inl (gl.1, 1, .inr (.inl (vp_updL lo (iI 0).toNatClampNeg (zL v_14)))))] H := hP
      have hD : va_D A [(aR, .inr (10, [.ref aG, .ref aP, .ref aH, .ref aY, .ref aT, .ref aS, .ref aF, .ref aX, .int (iI pr), .int (iI tk), .int (iI tol), .int (iI hou)])), (aT, .inr (8, [.ref aTp, .ref aTt, .ref aTx, .ref aTy, .ref aE, .int (iI ld)])), (aE, .inr (2, [.int (iI ex), .int (iI ey), .int (iI ehx), .int (iI ehy)])), (aP, .inr (5, [.ref aPx, .ref aPy, .int (iI pn)])), (aPx, .inl (gI g, 200, .inl (ar bx))), (aPy, .inl (gI g, 200, .inl (ar byy))), (aF, .inr (2, [.int (iI fx_o_1), .int (iI fy_o_2), .int (iI fhx_o_3), .int (iI fhy_o_4)])), (aS, .inr (6, [.ref aQ, .ref aSt, .ref aSx, .ref aSy, .int (iI sr_o_9), .int (iI sl_o_10)])), (aQ, .inr (2, [.int (iI qx_o_5), .int (iI qy_o_6), .int (iI qhx_o_7), .int (iI qhy_o_8)])), (aSt, .inl (gI g, 4, .inl (ar st_o_11))), (aSx, .inl (gI g, 4, .inl (ar sx_o_12))), (aSy, .inl (gI g, 4, .inl (ar sy_o_13))), (aY, .inr (9, [.ref aYh, .ref aYt, .ref aYc])), (aYh, .inl (gI g, 3, .inl (ar ht))), (aYt, .inl (gI g, 36, .inl (ar yt))), (aO, .inl (gl.1, 1, .inr (.inl (vp_updL lo (iI 0).toNatClampNeg (zL v_14)))))] := hD
      refine lv_goto (tgt := 25) hx hb dL_deviationWith_10 (by decide) ?_
      refine x_iconst hx hb dL_deviationWith_25 ?_
      rw [hQ9]
      exact x_iret hx hb hr hlocks hP hD hS (S := Int × Int × Int × Int × Int × Int × Int × Int × Int × Int × (Int → Int) × (Int → Int) × (Int → Int) × (Nat → Int64)) rfl dL_deviationWith_26 ⟨fx_o_1, fy_o_2, fhx_o_3, fhy_o_4, qx_o_5, qy_o_6, qhx_o_7, qhy_o_8, sr_o_9, sl_o_10, st_o_11, sx_o_12, sy_o_13, (vp_updL lo (iI 0).toNatClampNeg (zL v_14))⟩ (by
          first
          | (
             first | omega | (subst_vars; omega))
          | fail "q9") (by
          first
          | (
             refine ⟨fun h0 => ?_, ?_⟩
             · first | (exfalso; omega) | ((try dsimp only); rw [zl_up]; subst_vars; rfl) | ((try dsimp only); rw [zl_up]; congr 1)
             · first | exact hjk | exact hjk.2 | exact hXP | exact ⟨hb_st, hb_sx, hb_sy⟩)
          | fail "q9") rfl (Nat.le_of_ble_eq_true rfl) (Nat.le_of_ble_eq_true rfl)
  rw [hH, hlo, hQ9] at goal_
  exact goal_

set_option maxHeartbeats 4000000 in
set_option maxRecDepth 100000 in
theorem c_L_bestPosition (l : Launch) (hflags : l.stackTraces = false) (g : xg) (gl : ClassId × ClassId) (sz : Nat) (aR aG aP aH aY aT aS aF aX aTp aTt aTx aTy aE aPx aPy aQ aSt aSx aSy aYh aYt aYc aO : Nat) (pr tk tol hou ld ex ey ehx ehy pn fx fy fhx fhy sr sl qx qy qhx qhy sta : Int) (bx byy st sx sy ht yt tp : Int → Int) (kx : Int → Int) (ky : Int → Int) (lo : Nat → Int64) (hld : 0 ≤ ld ∧ ld ≤ 200) (hpn : 0 ≤ pn ∧ pn ≤ 200) (hb_bx : bnd bx (-5) 5) (hb_byy : bnd byy (-5) 5) (hb_yt : bnd yt 0 9) (hb_ht : bnd ht 0 12) (hb_tp : bnd tp 0 7) (hehx : -2000 ≤ ehx ∧ ehx ≤ 2000) (hehy : -2000 ≤ ehy ∧ ehy ≤ 2000) (hex : -400000 ≤ ex ∧ ex ≤ 400000) (hey : -400000 ≤ ey ∧ ey ≤ 400000) (hb_st : bnd st 0 9) (hb_sx : bnd sx (-5) 5) (hb_sy : bnd sy (-5) 5) (helx : ex = lastF ld kx) (hely : ey = lastF ld ky) (hr_sta : iR sta) : Met l yL_bestPosition wsL_bestPosition { frames := 8, cells := 2, slots := 12, locals := 140 } (va_Pc [.ref aR, .int (iI sta), .ref aO] (xBL g gl [(aR, .inr (10, [.ref aG, .ref aP, .ref aH, .ref aY, .ref aT, .ref aS, .ref aF, .ref aX, .int (iI pr), .int (iI tk), .int (iI tol), .int (iI hou)])), (aT, .inr (8, [.ref aTp, .ref aTt, .ref aTx, .ref aTy, .ref aE, .int (iI ld)])), (aE, .inr (2, [.int (iI ex), .int (iI ey), .int (iI ehx), .int (iI ehy)])), (aP, .inr (5, [.ref aPx, .ref aPy, .int (iI pn)])), (aPx, .inl (gI g, 200, .inl (ar bx))), (aPy, .inl (gI g, 200, .inl (ar byy))), (aF, .inr (2, [.int (iI fx), .int (iI fy), .int (iI fhx), .int (iI fhy)])), (aS, .inr (6, [.ref aQ, .ref aSt, .ref aSx, .ref aSy, .int (iI sr), .int (iI sl)])), (aQ, .inr (2, [.int (iI qx), .int (iI qy), .int (iI qhx), .int (iI qhy)])), (aSt, .inl (gI g, 4, .inl (ar st))), (aSx, .inl (gI g, 4, .inl (ar sx))), (aSy, .inl (gI g, 4, .inl (ar sy))), (aY, .inr (9, [.ref aYh, .ref aYt, .ref aYc])), (aYh, .inl (gI g, 3, .inl (ar ht))), (aYt, .inl (gI g, 36, .inl (ar yt))), (aTp, .inl (gI g, 200, .inl (ar tp))), (aO, .inl (gl.1, 1, .inr (.inl lo)))] sz)) (va_Qi (fun r u => r = iI ((fun (u : Int × Int × Int × Int × Int × Int × Int × Int × Int × Int × (Int → Int) × (Int → Int) × (Int → Int) × (Nat → Int64)) => emT ht sta) u) ∧ (fun (u : Int × Int × Int × Int × Int × Int × Int × Int × Int × Int × (Int → Int) × (Int → Int) × (Int → Int) × (Nat → Int64)) => (emT ht sta = 0 → u.2.2.2.2.2.2.2.2.2.2.2.2.2 0 = zL (besI (lastP ld tp) (fun p => devF pn bx byy kx ky ld ehx ehy (yt (sta * 12 + (ht sta - 1))) p) 8)) ∧ bnd u.2.2.2.2.2.2.2.2.2.2.1 0 9 ∧ bnd u.2.2.2.2.2.2.2.2.2.2.2.1 (-5) 5 ∧ bnd u.2.2.2.2.2.2.2.2.2.2.2.2.1 (-5) 5) u) (fun u t => xE g (va_A [(aR, .inr (10, [.ref aG, .ref aP, .ref aH, .ref aY, .ref aT, .ref aS, .ref aF, .ref aX, .int (iI pr), .int (iI tk), .int (iI tol), .int (iI hou)])), (aT, .inr (8, [.ref aTp, .ref aTt, .ref aTx, .ref aTy, .ref aE, .int (iI ld)])), (aE, .inr (2, [.int (iI ex), .int (iI ey), .int (iI ehx), .int (iI ehy)])), (aP, .inr (5, [.ref aPx, .ref aPy, .int (iI pn)])), (aPx, .inl (gI g, 200, .inl (ar bx))), (aPy, .inl (gI g, 200, .inl (ar byy))), (aF, .inr (2, [.int (iI fx), .int (iI fy), .int (iI fhx), .int (iI fhy)])), (aS, .inr (6, [.ref aQ, .ref aSt, .ref aSx, .ref aSy, .int (iI sr), .int (iI sl)])), (aQ, .inr (2, [.int (iI qx), .int (iI qy), .int (iI qhx), .int (iI qhy)])), (aSt, .inl (gI g, 4, .inl (ar st))), (aSx, .inl (gI g, 4, .inl (ar sx))), (aSy, .inl (gI g, 4, .inl (ar sy))), (aY, .inr (9, [.ref aYh, .ref aYt, .ref aYc])), (aYh, .inl (gI g, 3, .inl (ar ht))), (aYt, .inl (gI g, 36, .inl (ar yt))), (aTp, .inl (gI g, 200, .inl (ar tp))), (aO, .inl (gl.1, 1, .inr (.inl lo)))] sz) ((fun (u : Int × Int × Int × Int × Int × Int × Int × Int × Int × Int × (Int → Int) × (Int → Int) × (Int → Int) × (Nat → Int64)) => [(aR, .inr (10, [.ref aG, .ref aP, .ref aH, .ref aY, .ref aT, .ref aS, .ref aF, .ref aX, .int (iI pr), .int (iI tk), .int (iI tol), .int (iI hou)])), (aT, .inr (8, [.ref aTp, .ref aTt, .ref aTx, .ref aTy, .ref aE, .int (iI ld)])), (aE, .inr (2, [.int (iI ex), .int (iI ey), .int (iI ehx), .int (iI ehy)])), (aP, .inr (5, [.ref aPx, .ref aPy, .int (iI pn)])), (aPx, .inl (gI g, 200, .inl (ar bx))), (aPy, .inl (gI g, 200, .inl (ar byy))), (aF, .inr (2, [.int (iI u.1), .int (iI u.2.1), .int (iI u.2.2.1), .int (iI u.2.2.2.1)])), (aS, .inr (6, [.ref aQ, .ref aSt, .ref aSx, .ref aSy, .int (iI u.2.2.2.2.2.2.2.2.1), .int (iI u.2.2.2.2.2.2.2.2.2.1)])), (aQ, .inr (2, [.int (iI u.2.2.2.2.1), .int (iI u.2.2.2.2.2.1), .int (iI u.2.2.2.2.2.2.1), .int (iI u.2.2.2.2.2.2.2.1)])), (aSt, .inl (gI g, 4, .inl (ar u.2.2.2.2.2.2.2.2.2.2.1))), (aSx, .inl (gI g, 4, .inl (ar u.2.2.2.2.2.2.2.2.2.2.2.1))), (aSy, .inl (gI g, 4, .inl (ar u.2.2.2.2.2.2.2.2.2.2.2.2.1))), (aY, .inr (9, [.ref aYh, .ref aYt, .ref aYc])), (aYh, .inl (gI g, 3, .inl (ar ht))), (aYt, .inl (gI g, 36, .inl (ar yt))), (aTp, .inl (gI g, 200, .inl (ar tp))), (aO, .inl (gl.1, 1, .inr (.inl u.2.2.2.2.2.2.2.2.2.2.2.2.2)))]) u) t) (va_A [(aR, .inr (10, [.ref aG, .ref aP, .ref aH, .ref aY, .ref aT, .ref aS, .ref aF, .ref aX, .int (iI pr), .int (iI tk), .int (iI tol), .int (iI hou)])), (aT, .inr (8, [.ref aTp, .ref aTt, .ref aTx, .ref aTy, .ref aE, .int (iI ld)])), (aE, .inr (2, [.int (iI ex), .int (iI ey), .int (iI ehx), .int (iI ehy)])), (aP, .inr (5, [.ref aPx, .ref aPy, .int (iI pn)])), (aPx, .inl (gI g, 200, .inl (ar bx))), (aPy, .inl (gI g, 200, .inl (ar byy))), (aF, .inr (2, [.int (iI fx), .int (iI fy), .int (iI fhx), .int (iI fhy)])), (aS, .inr (6, [.ref aQ, .ref aSt, .ref aSx, .ref aSy, .int (iI sr), .int (iI sl)])), (aQ, .inr (2, [.int (iI qx), .int (iI qy), .int (iI qhx), .int (iI qhy)])), (aSt, .inl (gI g, 4, .inl (ar st))), (aSx, .inl (gI g, 4, .inl (ar sx))), (aSy, .inl (gI g, 4, .inl (ar sy))), (aY, .inr (9, [.ref aYh, .ref aYt, .ref aYc])), (aYh, .inl (gI g, 3, .inl (ar ht))), (aYt, .inl (gI g, 36, .inl (ar yt))), (aTp, .inl (gI g, 200, .inl (ar tp))), (aO, .inl (gl.1, 1, .inr (.inl lo)))] sz)) 2 12 (va_A [(aR, .inr (10, [.ref aG, .ref aP, .ref aH, .ref aY, .ref aT, .ref aS, .ref aF, .ref aX, .int (iI pr), .int (iI tk), .int (iI tol), .int (iI hou)])), (aT, .inr (8, [.ref aTp, .ref aTt, .ref aTx, .ref aTy, .ref aE, .int (iI ld)])), (aE, .inr (2, [.int (iI ex), .int (iI ey), .int (iI ehx), .int (iI ehy)])), (aP, .inr (5, [.ref aPx, .ref aPy, .int (iI pn)])), (aPx, .inl (gI g, 200, .inl (ar bx))), (aPy, .inl (gI g, 200, .inl (ar byy))), (aF, .inr (2, [.int (iI fx), .int (iI fy), .int (iI fhx), .int (iI fhy)])), (aS, .inr (6, [.ref aQ, .ref aSt, .ref aSx, .ref aSy, .int (iI sr), .int (iI sl)])), (aQ, .inr (2, [.int (iI qx), .int (iI qy), .int (iI qhx), .int (iI qhy)])), (aSt, .inl (gI g, 4, .inl (ar st))), (aSx, .inl (gI g, 4, .inl (ar sx))), (aSy, .inl (gI g, 4, .inl (ar sy))), (aY, .inr (9, [.ref aYh, .ref aYt, .ref aYc])), (aYh, .inl (gI g, 3, .inl (ar ht))), (aYt, .inl (gI g, 36, .inl (ar yt))), (aTp, .inl (gI g, 200, .inl (ar tp))), (aO, .inl (gl.1, 1, .inr (.inl lo)))] sz) := by
  refine x_enterH (y := yL_bestPosition) (ws := wsL_bestPosition) (g := g) (sz := sz) (av := [.ref aR, .int (iI sta), .ref aO]) (WS := [(aR, .inr (10, [.ref aG, .ref aP, .ref aH, .ref aY, .ref aT, .ref aS, .ref aF, .ref aX, .int (iI pr), .int (iI tk), .int (iI tol), .int (iI hou)])), (aT, .inr (8, [.ref aTp, .ref aTt, .ref aTx, .ref aTy, .ref aE, .int (iI ld)])), (aE, .inr (2, [.int (iI ex), .int (iI ey), .int (iI ehx), .int (iI ehy)])), (aP, .inr (5, [.ref aPx, .ref aPy, .int (iI pn)])), (aPx, .inl (gI g, 200, .inl (ar bx))), (aPy, .inl (gI g, 200, .inl (ar byy))), (aF, .inr (2, [.int (iI fx), .int (iI fy), .int (iI fhx), .int (iI fhy)])), (aS, .inr (6, [.ref aQ, .ref aSt, .ref aSx, .ref aSy, .int (iI sr), .int (iI sl)])), (aQ, .inr (2, [.int (iI qx), .int (iI qy), .int (iI qhx), .int (iI qhy)])), (aSt, .inl (gI g, 4, .inl (ar st))), (aSx, .inl (gI g, 4, .inl (ar sx))), (aSy, .inl (gI g, 4, .inl (ar sy))), (aY, .inr (9, [.ref aYh, .ref aYt, .ref aYc])), (aYh, .inl (gI g, 3, .inl (ar ht))), (aYt, .inl (gI g, 36, .inl (ar yt))), (aTp, .inl (gI g, 200, .inl (ar tp))), (aO, .inl (gl.1, 1, .inr (.inl lo)))]) (cc := cL_bestPosition) (maxL := 4) (ret := some .int) (Qc := (fun A => (va_Qi (fun r u => r = iI ((fun (u : Int × Int × Int × Int × Int × Int × Int × Int × Int × Int × (Int → Int) × (Int → Int) × (Int → Int) × (Nat → Int64)) => emT ht sta) u) ∧ (fun (u : Int × Int × Int × Int × Int × Int × Int × Int × Int × Int × (Int → Int) × (Int → Int) × (Int → Int) × (Nat → Int64)) => (emT ht sta = 0 → u.2.2.2.2.2.2.2.2.2.2.2.2.2 0 = zL (besI (lastP ld tp) (fun p => devF pn bx byy kx ky ld ehx ehy (yt (sta * 12 + (ht sta - 1))) p) 8)) ∧ bnd u.2.2.2.2.2.2.2.2.2.2.1 0 9 ∧ bnd u.2.2.2.2.2.2.2.2.2.2.2.1 (-5) 5 ∧ bnd u.2.2.2.2.2.2.2.2.2.2.2.2.1 (-5) 5) u) (fun u t => xE g A ((fun (u : Int × Int × Int × Int × Int × Int × Int × Int × Int × Int × (Int → Int) × (Int → Int) × (Int → Int) × (Nat → Int64)) => [(aR, .inr (10, [.ref aG, .ref aP, .ref aH, .ref aY, .ref aT, .ref aS, .ref aF, .ref aX, .int (iI pr), .int (iI tk), .int (iI tol), .int (iI hou)])), (aT, .inr (8, [.ref aTp, .ref aTt, .ref aTx, .ref aTy, .ref aE, .int (iI ld)])), (aE, .inr (2, [.int (iI ex), .int (iI ey), .int (iI ehx), .int (iI ehy)])), (aP, .inr (5, [.ref aPx, .ref aPy, .int (iI pn)])), (aPx, .inl (gI g, 200, .inl (ar bx))), (aPy, .inl (gI g, 200, .inl (ar byy))), (aF, .inr (2, [.int (iI u.1), .int (iI u.2.1), .int (iI u.2.2.1), .int (iI u.2.2.2.1)])), (aS, .inr (6, [.ref aQ, .ref aSt, .ref aSx, .ref aSy, .int (iI u.2.2.2.2.2.2.2.2.1), .int (iI u.2.2.2.2.2.2.2.2.2.1)])), (aQ, .inr (2, [.int (iI u.2.2.2.2.1), .int (iI u.2.2.2.2.2.1), .int (iI u.2.2.2.2.2.2.1), .int (iI u.2.2.2.2.2.2.2.1)])), (aSt, .inl (gI g, 4, .inl (ar u.2.2.2.2.2.2.2.2.2.2.1))), (aSx, .inl (gI g, 4, .inl (ar u.2.2.2.2.2.2.2.2.2.2.2.1))), (aSy, .inl (gI g, 4, .inl (ar u.2.2.2.2.2.2.2.2.2.2.2.2.1))), (aY, .inr (9, [.ref aYh, .ref aYt, .ref aYc])), (aYh, .inl (gI g, 3, .inl (ar ht))), (aYt, .inl (gI g, 36, .inl (ar yt))), (aTp, .inl (gI g, 200, .inl (ar tp))), (aO, .inl (gl.1, 1, .inr (.inl u.2.2.2.2.2.2.2.2.2.2.2.2.2)))]) u) t) A))) (by decide) rfl (Nat.le_of_ble_eq_true rfl) ?_
  intro p e s m args below meth c A ls hx hb hr hml hown hts hlocks htab hL hC hP hD hS hA hl
  have hK := hC.1
  have hown : s.vm.findClass RL = some m.cls := hown
  have hl : lv_has ls 4 [(0, .ref aR), (1, .int (iI sta)), (2, .ref aO)] := hl
  obtain ⟨H, hH⟩ : ∃ z, z = s.heap := ⟨_, rfl⟩
  obtain ⟨locs, hlo⟩ : ∃ z : List Loc, z = [] := ⟨_, rfl⟩
  obtain ⟨Q9, hQ9⟩ : ∃ z, z = MQ below (va_Qi (fun r u => r = iI ((fun (u : Int × Int × Int × Int × Int × Int × Int × Int × Int × Int × (Int → Int) × (Int → Int) × (Int → Int) × (Nat → Int64)) => emT ht sta) u) ∧ (fun (u : Int × Int × Int × Int × Int × Int × Int × Int × Int × Int × (Int → Int) × (Int → Int) × (Int → Int) × (Nat → Int64)) => (emT ht sta = 0 → u.2.2.2.2.2.2.2.2.2.2.2.2.2 0 = zL (besI (lastP ld tp) (fun p => devF pn bx byy kx ky ld ehx ehy (yt (sta * 12 + (ht sta - 1))) p) 8)) ∧ bnd u.2.2.2.2.2.2.2.2.2.2.1 0 9 ∧ bnd u.2.2.2.2.2.2.2.2.2.2.2.1 (-5) 5 ∧ bnd u.2.2.2.2.2.2.2.2.2.2.2.2.1 (-5) 5) u) (fun u t => xE g A ((fun (u : Int × Int × Int × Int × Int × Int × Int × Int × Int × Int × (Int → Int) × (Int → Int) × (Int → Int) × (Nat → Int64)) => [(aR, .inr (10, [.ref aG, .ref aP, .ref aH, .ref aY, .ref aT, .ref aS, .ref aF, .ref aX, .int (iI pr), .int (iI tk), .int (iI tol), .int (iI hou)])), (aT, .inr (8, [.ref aTp, .ref aTt, .ref aTx, .ref aTy, .ref aE, .int (iI ld)])), (aE, .inr (2, [.int (iI ex), .int (iI ey), .int (iI ehx), .int (iI ehy)])), (aP, .inr (5, [.ref aPx, .ref aPy, .int (iI pn)])), (aPx, .inl (gI g, 200, .inl (ar bx))), (aPy, .inl (gI g, 200, .inl (ar byy))), (aF, .inr (2, [.int (iI u.1), .int (iI u.2.1), .int (iI u.2.2.1), .int (iI u.2.2.2.1)])), (aS, .inr (6, [.ref aQ, .ref aSt, .ref aSx, .ref aSy, .int (iI u.2.2.2.2.2.2.2.2.1), .int (iI u.2.2.2.2.2.2.2.2.2.1)])), (aQ, .inr (2, [.int (iI u.2.2.2.2.1), .int (iI u.2.2.2.2.2.1), .int (iI u.2.2.2.2.2.2.1), .int (iI u.2.2.2.2.2.2.2.1)])), (aSt, .inl (gI g, 4, .inl (ar u.2.2.2.2.2.2.2.2.2.2.1))), (aSx, .inl (gI g, 4, .inl (ar u.2.2.2.2.2.2.2.2.2.2.2.1))), (aSy, .inl (gI g, 4, .inl (ar u.2.2.2.2.2.2.2.2.2.2.2.2.1))), (aY, .inr (9, [.ref aYh, .ref aYt, .ref aYc])), (aYh, .inl (gI g, 3, .inl (ar ht))), (aYt, .inl (gI g, 36, .inl (ar yt))), (aTp, .inl (gI g, 200, .inl (ar tp))), (aO, .inl (gl.1, 1, .inr (.inl u.2.2.2.2.2.2.2.2.2.2.2.2.2)))]) u) t) A) args s 2 12 A := ⟨_, rfl⟩
  have hP : va_P (gD g) vwCl [(aR, .inr (10, [.ref aG, .ref aP, .ref aH, .ref aY, .ref aT, .ref aS, .ref aF, .ref aX, .int (iI pr), .int (iI tk), .int (iI tol), .int (iI hou)])), (aT, .inr (8, [.ref aTp, .ref aTt, .ref aTx, .ref aTy, .ref aE, .int (iI ld)])), (aE, .inr (2, [.int (iI ex), .int (iI ey), .int (iI ehx), .int (iI ehy)])), (aP, .inr (5, [.ref aPx, .ref aPy, .int (iI pn)])), (aPx, .inl (gI g, 200, .inl (ar bx))), (aPy, .inl (gI g, 200, .inl (ar byy))), (aF, .inr (2, [.int (iI fx), .int (iI fy), .int (iI fhx), .int (iI fhy)])), (aS, .inr (6, [.ref aQ, .ref aSt, .ref aSx, .ref aSy, .int (iI sr), .int (iI sl)])), (aQ, .inr (2, [.int (iI qx), .int (iI qy), .int (iI qhx), .int (iI qhy)])), (aSt, .inl (gI g, 4, .inl (ar st))), (aSx, .inl (gI g, 4, .inl (ar sx))), (aSy, .inl (gI g, 4, .inl (ar sy))), (aY, .inr (9, [.ref aYh, .ref aYt, .ref aYc])), (aYh, .inl (gI g, 3, .inl (ar ht))), (aYt, .inl (gI g, 36, .inl (ar yt))), (aTp, .inl (gI g, 200, .inl (ar tp))), (aO, .inl (gl.1, 1, .inr (.inl lo)))] H := by rw [hH]; exact hP
  have hS : va_S A s.heap H locs := by rw [hH, hlo]; exact hS
  have goal_ : W p l e { frames := 8, cells := 2, slots := 12, locals := 140 } s m args below meth c H locs 0 0 Q9 (F0 m 0 ls []) := by
    clear hH hlo
    refine lv_aload_n hx hb dL_bestPosition_0 rfl (lv_at hl 2 rfl) ?_
    refine x_iconst hx hb dL_bestPosition_1 ?_
    refine lv_aload_n hx hb dL_bestPosition_2 rfl (lv_at hl 0 rfl) ?_
    refine lv_iload_n hx hb dL_bestPosition_3 rfl (lv_at hl 1 rfl) ?_
    refine x_calliX (S := Int × Int × Int × Int × Int × Int × Int × Int × Int × Int × (Int → Int) × (Int → Int) × (Int → Int)) (SX := Unit) (wc := [(aR, .inr (10, [.ref aG, .ref aP, .ref aH, .ref aY, .ref aT, .ref aS, .ref aF, .ref aX, .int (iI pr), .int (iI tk), .int (iI tol), .int (iI hou)])), (aT, .inr (8, [.ref aTp, .ref aTt, .ref aTx, .ref aTy, .ref aE, .int (iI ld)])), (aE, .inr (2, [.int (iI ex), .int (iI ey), .int (iI ehx), .int (iI ehy)])), (aP, .inr (5, [.ref aPx, .ref aPy, .int (iI pn)])), (aPx, .inl (gI g, 200, .inl (ar bx))), (aPy, .inl (gI g, 200, .inl (ar byy))), (aF, .inr (2, [.int (iI fx), .int (iI fy), .int (iI fhx), .int (iI fhy)])), (aS, .inr (6, [.ref aQ, .ref aSt, .ref aSx, .ref aSy, .int (iI sr), .int (iI sl)])), (aQ, .inr (2, [.int (iI qx), .int (iI qy), .int (iI qhx), .int (iI qhy)])), (aSt, .inl (gI g, 4, .inl (ar st))), (aSx, .inl (gI g, 4, .inl (ar sx))), (aSy, .inl (gI g, 4, .inl (ar sy))), (aY, .inr (9, [.ref aYh, .ref aYt, .ref aYc])), (aYh, .inl (gI g, 3, .inl (ar ht))), (aYt, .inl (gI g, 36, .inl (ar yt))), (aTp, .inl (gI g, 200, .inl (ar tp)))]) (wr := [(aO, .inl (gl.1, 1, .inr (.inl lo)))]) hC hP hD hS hA [0, 1, 2, 3, 4, 5, 6, 7, 8, 9, 10, 11, 12, 13, 14, 15] [16] [1, 2, 3, 4, 5, 6, 7, 8, 9, 10, 11, 12, 13, 14, 15, 16, 0] rfl rfl (fun hpre => vx_runV (As := [.int (iI sta)]) (rest := [.int (iI 0), .ref aO]) ⟨hx, hb, hml, hown, hts⟩ (c_X8_bestPosition l hflags g H.size aR aG aP aH aY aT aS aF aX aTp aTt aTx aTy aE aPx aPy aQ aSt aSx aSy aYh aYt aYc pr tk tol hou ld ex ey ehx ehy pn fx fy fhx fhy sr sl qx qy qhx qhy sta bx byy st sx sy ht yt tp kx ky (by first | (first | assumption | omega | exact bnd_up (by assumption) (by omega) (by omega)) | fail "q8") (by first | (first | assumption | omega | exact bnd_up (by assumption) (by omega) (by omega)) | fail "q8") (by first | (first | assumption | omega | exact bnd_up (by assumption) (by omega) (by omega)) | fail "q8") (by first | (first | assumption | omega | exact bnd_up (by assumption) (by omega) (by omega)) | fail "q8") (by first | (first | assumption | omega | exact bnd_up (by assumption) (by omega) (by omega)) | fail "q8") (by first | (first | assumption | omega | exact bnd_up (by assumption) (by omega) (by omega)) | fail "q8") (by first | (first | assumption | omega | exact bnd_up (by assumption) (by omega) (by omega)) | fail "q8") (by first | (first | assumption | omega | exact bnd_up (by assumption) (by omega) (by omega)) | fail "q8") (by first | (first | assumption | omega | exact bnd_up (by assumption) (by omega) (by omega)) | fail "q8") (by first | (first | assumption | omega | exact bnd_up (by assumption) (by omega) (by omega)) | fail "q8") (by first | (first | assumption | omega | exact bnd_up (by assumption) (by omega) (by omega)) | fail "q8") (by first | (first | assumption | omega | exact bnd_up (by assumption) (by omega) (by omega)) | fail "q8") (by first | (first | assumption | omega | exact bnd_up (by assumption) (by omega) (by omega)) | fail "q8") (by first | (first | assumption | omega | exact bnd_up (by assumption) (by omega) (by omega)) | fail "q8") (by first | (first | assumption | omega | exact bnd_up (by assumption) (by omega) (by omega)) | fail "q8") (by first | (first | assumption | omega | exact bnd_up (by assumption) (by omega) (by omega)) | fail "q8") (by first | (first | assumption | omega | exact bnd_up (by assumption) (by omega) (by omega)) | fail "q8")) (cwV 1 hts gL_bestPosition_X8_bestPosition rfl rfl rfl (by decide +kernel) ⟨Nat.le_of_ble_eq_true rfl, Nat.le_of_ble_eq_true rfl⟩) ⟨xB_blind, va_recv hK hP (ci := 10) (q0 := 0) rfl rfl, hpre _⟩ rfl rfl hl.1 rfl (lv_room (Nat.le_of_ble_eq_true rfl)) dL_bestPosition_4 ⟨Nat.le_of_ble_eq_true rfl, Nat.le_of_ble_eq_true rfl⟩) (fun (u : Int × Int × Int × Int × Int × Int × Int × Int × Int × Int × (Int → Int) × (Int → Int) × (Int → Int)) => [(aR, .inr (10, [.ref aG, .ref aP, .ref aH, .ref aY, .ref aT, .ref aS, .ref aF, .ref aX, .int (iI pr), .int (iI tk), .int (iI tol), .int (iI hou)])), (aT, .inr (8, [.ref aTp, .ref aTt, .ref aTx, .ref aTy, .ref aE, .int (iI ld)])), (aE, .inr (2, [.int (iI ex), .int (iI ey), .int (iI ehx), .int (iI ehy)])), (aP, .inr (5, [.ref aPx, .ref aPy, .int (iI pn)])), (aPx, .inl (gI g, 200, .inl (ar bx))), (aPy, .inl (gI g, 200, .inl (ar byy))), (aF, .inr (2, [.int (iI u.1), .int (iI u.2.1), .int (iI u.2.2.1), .int (iI u.2.2.2.1)])), (aS, .inr (6, [.ref aQ, .ref aSt, .ref aSx, .ref aSy, .int (iI u.2.2.2.2.2.2.2.2.1), .int (iI u.2.2.2.2.2.2.2.2.2.1)])), (aQ, .inr (2, [.int (iI u.2.2.2.2.1), .int (iI u.2.2.2.2.2.1), .int (iI u.2.2.2.2.2.2.1), .int (iI u.2.2.2.2.2.2.2.1)])), (aSt, .inl (gI g, 4, .inl (ar u.2.2.2.2.2.2.2.2.2.2.1))), (aSx, .inl (gI g, 4, .inl (ar u.2.2.2.2.2.2.2.2.2.2.2.1))), (aSy, .inl (gI g, 4, .inl (ar u.2.2.2.2.2.2.2.2.2.2.2.2))), (aY, .inr (9, [.ref aYh, .ref aYt, .ref aYc])), (aYh, .inl (gI g, 3, .inl (ar ht))), (aYt, .inl (gI g, 36, .inl (ar yt))), (aTp, .inl (gI g, 200, .inl (ar tp))), (aO, .inl (gl.1, 1, .inr (.inl lo)))]) (fun (u : Unit) => ([(aR, .inr (10, [.ref aG, .ref aP, .ref aH, .ref aY, .ref aT, .ref aS, .ref aF, .ref aX, .int (iI pr), .int (iI tk), .int (iI tol), .int (iI hou)])), (aT, .inr (8, [.ref aTp, .ref aTt, .ref aTx, .ref aTy, .ref aE, .int (iI ld)])), (aE, .inr (2, [.int (iI ex), .int (iI ey), .int (iI ehx), .int (iI ehy)])), (aP, .inr (5, [.ref aPx, .ref aPy, .int (iI pn)])), (aPx, .inl (gI g, 200, .inl (ar bx))), (aPy, .inl (gI g, 200, .inl (ar byy))), (aF, .inr (2, [.int (iI fx), .int (iI fy), .int (iI fhx), .int (iI fhy)])), (aS, .inr (6, [.ref aQ, .ref aSt, .ref aSx, .ref aSy, .int (iI sr), .int (iI sl)])), (aQ, .inr (2, [.int (iI qx), .int (iI qy), .int (iI qhx), .int (iI qhy)])), (aSt, .inl (gI g, 4, .inl (ar st))), (aSx, .inl (gI g, 4, .inl (ar sx))), (aSy, .inl (gI g, 4, .inl (ar sy))), (aY, .inr (9, [.ref aYh, .ref aYt, .ref aYc])), (aYh, .inl (gI g, 3, .inl (ar ht))), (aYt, .inl (gI g, 36, .inl (ar yt))), (aTp, .inl (gI g, 200, .inl (ar tp))), (aO, .inl (gl.1, 1, .inr (.inl lo)))] : va_W)) rfl rfl (by decide) (fun _ => rfl) (fun _ => rfl) rfl (fun E ce q9 u H locs hXP hPX hP hD hS hcell hv9 hcl => ?_) (fun u v_14 H locs hv_14 pv_14 hP hD hS => ?_)
    · skip
      have hP : va_P (gD g) vwCl [(aR, .inr (10, [.ref aG, .ref aP, .ref aH, .ref aY, .ref aT, .ref aS, .ref aF, .ref aX, .int (iI pr), .int (iI tk), .int (iI tol), .int (iI hou)])), (aT, .inr (8, [.ref aTp, .ref aTt, .ref aTx, .ref aTy, .ref aE, .int (iI ld)])), (aE, .inr (2, [.int (iI ex), .int (iI ey), .int (iI ehx), .int (iI ehy)])), (aP, .inr (5, [.ref aPx, .ref aPy, .int (iI pn)])), (aPx, .inl (gI g, 200, .inl (ar bx))), (aPy, .inl (gI g, 200, .inl (ar byy))), (aF, .inr (2, [.int (iI fx), .int (iI fy), .int (iI fhx), .int (iI fhy)])), (aS, .inr (6, [.ref aQ, .ref aSt, .ref aSx, .ref aSy, .int (iI sr), .int (iI sl)])), (aQ, .inr (2, [.int (iI qx), .int (iI qy), .int (iI qhx), .int (iI qhy)])), (aSt, .inl (gI g, 4, .inl (ar st))), (aSx, .inl (gI g, 4, .inl (ar sx))), (aSy, .inl (gI g, 4, .inl (ar sy))), (aY, .inr (9, [.ref aYh, .ref aYt, .ref aYc])), (aYh, .inl (gI g, 3, .inl (ar ht))), (aYt, .inl (gI g, 36, .inl (ar yt))), (aTp, .inl (gI g, 200, .inl (ar tp))), (aO, .inl (gl.1, 1, .inr (.inl lo)))] H := hP
      have hD : va_D A [(aR, .inr (10, [.ref aG, .ref aP, .ref aH, .ref aY, .ref aT, .ref aS, .ref aF, .ref aX, .int (iI pr), .int (iI tk), .int (iI tol), .int (iI hou)])), (aT, .inr (8, [.ref aTp, .ref aTt, .ref aTx, .ref aTy, .ref aE, .int (iI ld)])), (aE, .inr (2, [.int (iI ex), .int (iI ey), .int (iI ehx), .int (iI ehy)])), (aP, .inr (5, [.ref aPx, .ref aPy, .int (iI pn)])), (aPx, .inl (gI g, 200, .inl (ar bx))), (aPy, .inl (gI g, 200, .inl (ar byy))), (aF, .inr (2, [.int (iI fx), .int (iI fy), .int (iI fhx), .int (iI fhy)])), (aS, .inr (6, [.ref aQ, .ref aSt, .ref aSx, .ref aSy, .int (iI sr), .int (iI sl)])), (aQ, .inr (2, [.int (iI qx), .int (iI qy), .int (iI qhx), .int (iI qhy)])), (aSt, .inl (gI g, 4, .inl (ar st))), (aSx, .inl (gI g, 4, .inl (ar sx))), (aSy, .inl (gI g, 4, .inl (ar sy))), (aY, .inr (9, [.ref aYh, .ref aYt, .ref aYc])), (aYh, .inl (gI g, 3, .inl (ar ht))), (aYt, .inl (gI g, 36, .inl (ar yt))), (aTp, .inl (gI g, 200, .inl (ar tp))), (aO, .inl (gl.1, 1, .inr (.inl lo)))] := hD
      rcases hPX with ⟨hE, hp⟩ | ⟨hE, hp⟩
      · skip
        have hp : emT ht sta = 1 := hp
        subst hE
        refine vx_catch (E := "java/lang/IndexOutOfBoundsException") (name := "java/lang/IndexOutOfBoundsException") hown [] ⟨0, 9, 12, 24⟩ [⟨0, 9, 15, 43⟩] (by rw [htab]; rfl) (fun z hz => by cases hz) (by decide) (by decide) (hts (.classLink RL 24 "java/lang/IndexOutOfBoundsException") (List.mem_of_getElem? (i := 1) rfl)) (va_Nw.use rfl (hC.2.2.2.2.2.2.2.2.2.2.1 "java/lang/IndexOutOfBoundsException" (List.mem_of_getElem? (i := 2) rfl))) hcell hv9 hcl ?_
        refine lv_astore_n (lv' := [(3, .ref q9), (0, .ref aR), (1, .int (iI sta)), (2, .ref aO)]) hx hb dL_bestPosition_12 rfl hl (by decide) rfl (fun ls hl => ?_)
        refine x_iconst hx hb dL_bestPosition_13 ?_
        rw [hQ9]
        exact x_iret hx hb hr hlocks hP hD hS (S := Int × Int × Int × Int × Int × Int × Int × Int × Int × Int × (Int → Int) × (Int → Int) × (Int → Int) × (Nat → Int64)) rfl dL_bestPosition_14 ⟨fx, fy, fhx, fhy, qx, qy, qhx, qhy, sr, sl, st, sx, sy, lo⟩ (by
            first
            | (
               first | omega | (subst_vars; omega))
            | fail "q9") (by
            first
            | (
               refine ⟨fun h0 => ?_, ?_⟩
               · first | (exfalso; omega) | ((try dsimp only); rw [zl_up]; subst_vars; rfl) | ((try dsimp only); rw [zl_up]; congr 1)
               · first | exact hjk | exact hjk.2 | exact hXP | exact ⟨hb_st, hb_sx, hb_sy⟩)
            | fail "q9") rfl (Nat.le_of_ble_eq_true rfl) (Nat.le_of_ble_eq_true rfl)
      · skip
        have hp : emT ht sta = 2 := hp
        subst hE
        refine vx_catch (E := "java/util/NoSuchElementException") (name := "java/util/NoSuchElementException") hown [⟨0, 9, 12, 24⟩] ⟨0, 9, 15, 43⟩ [] (by rw [htab]; rfl) (fun z hz => by rcases List.mem_cons.mp hz with rfl | hz; exact Or.inr ⟨by decide, "java/lang/IndexOutOfBoundsException", (hts (.classLink RL 24 "java/lang/IndexOutOfBoundsException") (List.mem_of_getElem? (i := 1) rfl)), hL.2 ("java/util/NoSuchElementException", "java/lang/IndexOutOfBoundsException") (List.mem_of_getElem? (i := 17) (by decide +kernel))⟩; cases hz) (by decide) (by decide) (hts (.classLink RL 43 "java/util/NoSuchElementException") (List.mem_of_getElem? (i := 2) rfl)) (va_Nw.use rfl (hC.2.2.2.2.2.2.2.2.2.2.1 "java/util/NoSuchElementException" (List.mem_of_getElem? (i := 3) rfl))) hcell hv9 hcl ?_
        refine lv_astore_n (lv' := [(3, .ref q9), (0, .ref aR), (1, .int (iI sta)), (2, .ref aO)]) hx hb dL_bestPosition_15 rfl hl (by decide) rfl (fun ls hl => ?_)
        refine x_iconst hx hb dL_bestPosition_16 ?_
        rw [hQ9]
        exact x_iret hx hb hr hlocks hP hD hS (S := Int × Int × Int × Int × Int × Int × Int × Int × Int × Int × (Int → Int) × (Int → Int) × (Int → Int) × (Nat → Int64)) rfl dL_bestPosition_17 ⟨fx, fy, fhx, fhy, qx, qy, qhx, qhy, sr, sl, st, sx, sy, lo⟩ (by
            first
            | (
               first | omega | (subst_vars; omega))
            | fail "q9") (by
            first
            | (
               refine ⟨fun h0 => ?_, ?_⟩
               · first | (exfalso; omega) | ((try dsimp only); rw [zl_up]; subst_vars; rfl) | ((try dsimp only); rw [zl_up]; congr 1)
               · first | exact hjk | exact hjk.2 | exact hXP | exact ⟨hb_st, hb_sx, hb_sy⟩)
            | fail "q9") rfl (Nat.le_of_ble_eq_true rfl) (Nat.le_of_ble_eq_true rfl)
    · skip
      obtain ⟨fx_o_1, fy_o_2, fhx_o_3, fhy_o_4, qx_o_5, qy_o_6, qhx_o_7, qhy_o_8, sr_o_9, sl_o_10, st_o_11, sx_o_12, sy_o_13⟩ := u
      have hP : va_P (gD g) vwCl [(aR, .inr (10, [.ref aG, .ref aP, .ref aH, .ref aY, .ref aT, .ref aS, .ref aF, .ref aX, .int (iI pr), .int (iI tk), .int (iI tol), .int (iI hou)])), (aT, .inr (8, [.ref aTp, .ref aTt, .ref aTx, .ref aTy, .ref aE, .int (iI ld)])), (aE, .inr (2, [.int (iI ex), .int (iI ey), .int (iI ehx), .int (iI ehy)])), (aP, .inr (5, [.ref aPx, .ref aPy, .int (iI pn)])), (aPx, .inl (gI g, 200, .inl (ar bx))), (aPy, .inl (gI g, 200, .inl (ar byy))), (aF, .inr (2, [.int (iI fx_o_1), .int (iI fy_o_2), .int (iI fhx_o_3), .int (iI fhy_o_4)])), (aS, .inr (6, [.ref aQ, .ref aSt, .ref aSx, .ref aSy, .int (iI sr_o_9), .int (iI sl_o_10)])), (aQ, .inr (2, [.int (iI qx_o_5), .int (iI qy_o_6), .int (iI qhx_o_7), .int (iI qhy_o_8)])), (aSt, .inl (gI g, 4, .inl (ar st_o_11))), (aSx, .inl (gI g, 4, .inl (ar sx_o_12))), (aSy, .inl (gI g, 4, .inl (ar sy_o_13))), (aY, .inr (9, [.ref aYh, .ref aYt, .ref aYc])), (aYh, .inl (gI g, 3, .inl (ar ht))), (aYt, .inl (gI g, 36, .inl (ar yt))), (aTp, .inl (gI g, 200, .inl (ar tp))), (aO, .inl (gl.1, 1, .inr (.inl lo)))] H := hP
      have hD : va_D A [(aR, .inr (10, [.ref aG, .ref aP, .ref aH, .ref aY, .ref aT, .ref aS, .ref aF, .ref aX, .int (iI pr), .int (iI tk), .int (iI tol), .int (iI hou)])), (aT, .inr (8, [.ref aTp, .ref aTt, .ref aTx, .ref aTy, .ref aE, .int (iI ld)])), (aE, .inr (2, [.int (iI ex), .int (iI ey), .int (iI ehx), .int (iI ehy)])), (aP, .inr (5, [.ref aPx, .ref aPy, .int (iI pn)])), (aPx, .inl (gI g, 200, .inl (ar bx))), (aPy, .inl (gI g, 200, .inl (ar byy))), (aF, .inr (2, [.int (iI fx_o_1), .int (iI fy_o_2), .int (iI fhx_o_3), .int (iI fhy_o_4)])), (aS, .inr (6, [.ref aQ, .ref aSt, .ref aSx, .ref aSy, .int (iI sr_o_9), .int (iI sl_o_10)])), (aQ, .inr (2, [.int (iI qx_o_5), .int (iI qy_o_6), .int (iI qhx_o_7), .int (iI qhy_o_8)])), (aSt, .inl (gI g, 4, .inl (ar st_o_11))), (aSx, .inl (gI g, 4, .inl (ar sx_o_12))), (aSy, .inl (gI g, 4, .inl (ar sy_o_13))), (aY, .inr (9, [.ref aYh, .ref aYt, .ref aYc])), (aYh, .inl (gI g, 3, .inl (ar ht))), (aYt, .inl (gI g, 36, .inl (ar yt))), (aTp, .inl (gI g, 200, .inl (ar tp))), (aO, .inl (gl.1, 1, .inr (.inl lo)))] := hD
      have hv_14 : v_14 = besI (lastP ld tp) (fun p => devF pn bx byy kx ky ld ehx ehy (yt (sta * 12 + (ht sta - 1))) p) 8 := hv_14
      obtain ⟨tv_14, pv_14⟩ := pv_14
      have tv_14 : emT ht sta = 0 := tv_14
      have pv_14 : bnd st_o_11 0 9 ∧ bnd sx_o_12 (-5) 5 ∧ bnd sy_o_13 (-5) 5 := by first | exact pv_14 | (rw [hv_14]; exact pv_14)
      have hjk := pv_14
      refine x_i2z hx hb dL_bestPosition_7 ?_
      refine va_last hx hb hL.1 hP hD hS 16 0 rfl rfl zl_in dL_bestPosition_8 (fun H locs hP hD hS => ?_)
      have hP : va_P (gD g) vwCl [(aR, .inr (10, [.ref aG, .ref aP, .ref aH, .ref aY, .ref aT, .ref aS, .ref aF, .ref aX, .int (iI pr), .int (iI tk), .int (iI tol), .int (iI hou)])), (aT, .inr (8, [.ref aTp, .ref aTt, .ref aTx, .ref aTy, .ref aE, .int (iI ld)])), (aE, .inr (2, [.int (iI ex), .int (iI ey), .int (iI ehx), .int (iI ehy)])), (aP, .inr (5, [.ref aPx, .ref aPy, .int (iI pn)])), (aPx, .inl (gI g, 200, .inl (ar bx))), (aPy, .inl (gI g, 200, .inl (ar byy))), (aF, .inr (2, [.int (iI fx_o_1), .int (iI fy_o_2), .int (iI fhx_o_3), .int (iI fhy_o_4)])), (aS, .inr (6, [.ref aQ, .ref aSt, .ref aSx, .ref aSy, .int (iI sr_o_9), .int (iI sl_o_10)])), (aQ, .inr (2, [.int (iI qx_o_5), .int (iI qy_o_6), .int (iI qhx_o_7), .int (iI qhy_o_8)])), (aSt, .inl (gI g, 4, .inl (ar st_o_11))), (aSx, .inl (gI g, 4, .inl (ar sx_o_12))), (aSy, .inl (gI g, 4, .inl (ar sy_o_13))), (aY, .inr (9, [.ref aYh, .ref aYt, .ref aYc])), (aYh, .inl (gI g, 3, .inl (ar ht))), (aYt, .inl (gI g, 36, .inl (ar yt))), (aTp, .inl (gI g, 200, .inl (ar tp))), (aO, .inl (gl.1, 1, .inr (.inl (vp_updL lo (iI 0).toNatClampNeg (zL v_14)))))] H := hP
      have hD : va_D A [(aR, .inr (10, [.ref aG, .ref aP, .ref aH, .ref aY, .ref aT, .ref aS, .ref aF, .ref aX, .int (iI pr), .int (iI tk), .int (iI tol), .int (iI hou)])), (aT, .inr (8, [.ref aTp, .ref aTt, .ref aTx, .ref aTy, .ref aE, .int (iI ld)])), (aE, .inr (2, [.int (iI ex), .int (iI ey), .int (iI ehx), .int (iI ehy)])), (aP, .inr (5, [.ref aPx, .ref aPy, .int (iI pn)])), (aPx, .inl (gI g, 200, .inl (ar bx))), (aPy, .inl (gI g, 200, .inl (ar byy))), (aF, .inr (2, [.int (iI fx_o_1), .int (iI fy_o_2), .int (iI fhx_o_3), .int (iI fhy_o_4)])), (aS, .inr (6, [.ref aQ, .ref aSt, .ref aSx, .ref aSy, .int (iI sr_o_9), .int (iI sl_o_10)])), (aQ, .inr (2, [.int (iI qx_o_5), .int (iI qy_o_6), .int (iI qhx_o_7), .int (iI qhy_o_8)])), (aSt, .inl (gI g, 4, .inl (ar st_o_11))), (aSx, .inl (gI g, 4, .inl (ar sx_o_12))), (aSy, .inl (gI g, 4, .inl (ar sy_o_13))), (aY, .inr (9, [.ref aYh, .ref aYt, .ref aYc])), (aYh, .inl (gI g, 3, .inl (ar ht))), (aYt, .inl (gI g, 36, .inl (ar yt))), (aTp, .inl (gI g, 200, .inl (ar tp))), (aO, .inl (gl.1, 1, .inr (.inl (vp_updL lo (iI 0).toNatClampNeg (zL v_14)))))] := hD
      refine lv_goto (tgt := 18) hx hb dL_bestPosition_9 (by decide) ?_
      refine x_iconst hx hb dL_bestPosition_18 ?_
      rw [hQ9]
      exact x_iret hx hb hr hlocks hP hD hS (S := Int × Int × Int × Int × Int × Int × Int × Int × Int × Int × (Int → Int) × (Int → Int) × (Int → Int) × (Nat → Int64)) rfl dL_bestPosition_19 ⟨fx_o_1, fy_o_2, fhx_o_3, fhy_o_4, qx_o_5, qy_o_6, qhx_o_7, qhy_o_8, sr_o_9, sl_o_10, st_o_11, sx_o_12, sy_o_13, (vp_updL lo (iI 0).toNatClampNeg (zL v_14))⟩ (by
          first
          | (
             first | omega | (subst_vars; omega))
          | fail "q9") (by
          first
          | (
             refine ⟨fun h0 => ?_, ?_⟩
             · first | (exfalso; omega) | ((try dsimp only); rw [zl_up]; subst_vars; rfl) | ((try dsimp only); rw [zl_up]; congr 1)
             · first | exact hjk | exact hjk.2 | exact hXP | exact ⟨hb_st, hb_sx, hb_sy⟩)
          | fail "q9") rfl (Nat.le_of_ble_eq_true rfl) (Nat.le_of_ble_eq_true rfl)
  rw [hH, hlo, hQ9] at goal_
  exact goal_

set_option maxHeartbeats 4000000 in
set_option maxRecDepth 100000 in
theorem c_L_leastDeviation (l : Launch) (hflags : l.stackTraces = false) (g : xg) (gl : ClassId × ClassId) (sz : Nat) (aR aG aP aH aY aT aS aF aX aTp aTt aTx aTy aE aPx aPy aQ aSt aSx aSy aYh aYt aYc aO : Nat) (pr tk tol hou ld ex ey ehx ehy pn fx fy fhx fhy sr sl qx qy qhx qhy sta cnt : Int) (bx byy st sx sy ht yt tp : Int → Int) (kx : Int → Int) (ky : Int → Int) (lo : Nat → Int64) (hld : 0 ≤ ld ∧ ld ≤ 200) (hpn : 0 ≤ pn ∧ pn ≤ 200) (hb_bx : bnd bx (-5) 5) (hb_byy : bnd byy (-5) 5) (hb_yt : bnd yt 0 9) (hb_ht : bnd ht 0 12) (hb_tp : bnd tp 0 7) (hehx : -2000 ≤ ehx ∧ ehx ≤ 2000) (hehy : -2000 ≤ ehy ∧ ehy ≤ 2000) (hex : -400000 ≤ ex ∧ ex ≤ 400000) (hey : -400000 ≤ ey ∧ ey ≤ 400000) (hb_st : bnd st 0 9) (hb_sx : bnd sx (-5) 5) (hb_sy : bnd sy (-5) 5) (helx : ex = lastF ld kx) (hely : ey = lastF ld ky) (hr_sta : iR sta) (hr_cnt : iR cnt) : Met l yL_leastDeviation wsL_leastDeviation { frames := 9, cells := 3, slots := 18, locals := 199 } (va_Pc [.ref aR, .int (iI sta), .int (iI cnt), .ref aO] (xBL g gl [(aR, .inr (10, [.ref aG, .ref aP, .ref aH, .ref aY, .ref aT, .ref aS, .ref aF, .ref aX, .int (iI pr), .int (iI tk), .int (iI tol), .int (iI hou)])), (aT, .inr (8, [.ref aTp, .ref aTt, .ref aTx, .ref aTy, .ref aE, .int (iI ld)])), (aE, .inr (2, [.int (iI ex), .int (iI ey), .int (iI ehx), .int (iI ehy)])), (aP, .inr (5, [.ref aPx, .ref aPy, .int (iI pn)])), (aPx, .inl (gI g, 200, .inl (ar bx))), (aPy, .inl (gI g, 200, .inl (ar byy))), (aF, .inr (2, [.int (iI fx), .int (iI fy), .int (iI fhx), .int (iI fhy)])), (aS, .inr (6, [.ref aQ, .ref aSt, .ref aSx, .ref aSy, .int (iI sr), .int (iI sl)])), (aQ, .inr (2, [.int (iI qx), .int (iI qy), .int (iI qhx), .int (iI qhy)])), (aSt, .inl (gI g, 4, .inl (ar st))), (aSx, .inl (gI g, 4, .inl (ar sx))), (aSy, .inl (gI g, 4, .inl (ar sy))), (aY, .inr (9, [.ref aYh, .ref aYt, .ref aYc])), (aYh, .inl (gI g, 3, .inl (ar ht))), (aYt, .inl (gI g, 36, .inl (ar yt))), (aTp, .inl (gI g, 200, .inl (ar tp))), (aO, .inl (gl.1, 1, .inr (.inl lo)))] sz)) (va_Qi (fun r u => r = iI ((fun (u : Int × Int × Int × Int × Int × Int × Int × Int × Int × Int × (Int → Int) × (Int → Int) × (Int → Int) × (Nat → Int64)) => ldT ht sta cnt) u) ∧ (fun (u : Int × Int × Int × Int × Int × Int × Int × Int × Int × Int × (Int → Int) × (Int → Int) × (Int → Int) × (Nat → Int64)) => (ldT ht sta cnt = 0 → u.2.2.2.2.2.2.2.2.2.2.2.2.2 0 = zL (leaN yt (fun x y => aI (x - plO pn bx (ld + cnt)) + aI (y - plO pn byy (ld + cnt))) cnt.toNat (sta * 12 + (ht sta - 1)) (lastP ld tp) ehx ehy (lastF ld kx) (lastF ld ky))) ∧ bnd u.2.2.2.2.2.2.2.2.2.2.1 0 9 ∧ bnd u.2.2.2.2.2.2.2.2.2.2.2.1 (-5) 5 ∧ bnd u.2.2.2.2.2.2.2.2.2.2.2.2.1 (-5) 5) u) (fun u t => xE g (va_A [(aR, .inr (10, [.ref aG, .ref aP, .ref aH, .ref aY, .ref aT, .ref aS, .ref aF, .ref aX, .int (iI pr), .int (iI tk), .int (iI tol), .int (iI hou)])), (aT, .inr (8, [.ref aTp, .ref aTt, .ref aTx, .ref aTy, .ref aE, .int (iI ld)])), (aE, .inr (2, [.int (iI ex), .int (iI ey), .int (iI ehx), .int (iI ehy)])), (aP, .inr (5, [.ref aPx, .ref aPy, .int (iI pn)])), (aPx, .inl (gI g, 200, .inl (ar bx))), (aPy, .inl (gI g, 200, .inl (ar byy))), (aF, .inr (2, [.int (iI fx), .int (iI fy), .int (iI fhx), .int (iI fhy)])), (aS, .inr (6, [.ref aQ, .ref aSt, .ref aSx, .ref aSy, .int (iI sr), .int (iI sl)])), (aQ, .inr (2, [.int (iI qx), .int (iI qy), .int (iI qhx), .int (iI qhy)])), (aSt, .inl (gI g, 4, .inl (ar st))), (aSx, .inl (gI g, 4, .inl (ar sx))), (aSy, .inl (gI g, 4, .inl (ar sy))), (aY, .inr (9, [.ref aYh, .ref aYt, .ref aYc])), (aYh, .inl (gI g, 3, .inl (ar ht))), (aYt, .inl (gI g, 36, .inl (ar yt))), (aTp, .inl (gI g, 200, .inl (ar tp))), (aO, .inl (gl.1, 1, .inr (.inl lo)))] sz) ((fun (u : Int × Int × Int × Int × Int × Int × Int × Int × Int × Int × (Int → Int) × (Int → Int) × (Int → Int) × (Nat → Int64)) => [(aR, .inr (10, [.ref aG, .ref aP, .ref aH, .ref aY, .ref aT, .ref aS, .ref aF, .ref aX, .int (iI pr), .int (iI tk), .int (iI tol), .int (iI hou)])), (aT, .inr (8, [.ref aTp, .ref aTt, .ref aTx, .ref aTy, .ref aE, .int (iI ld)])), (aE, .inr (2, [.int (iI ex), .int (iI ey), .int (iI ehx), .int (iI ehy)])), (aP, .inr (5, [.ref aPx, .ref aPy, .int (iI pn)])), (aPx, .inl (gI g, 200, .inl (ar bx))), (aPy, .inl (gI g, 200, .inl (ar byy))), (aF, .inr (2, [.int (iI u.1), .int (iI u.2.1), .int (iI u.2.2.1), .int (iI u.2.2.2.1)])), (aS, .inr (6, [.ref aQ, .ref aSt, .ref aSx, .ref aSy, .int (iI u.2.2.2.2.2.2.2.2.1), .int (iI u.2.2.2.2.2.2.2.2.2.1)])), (aQ, .inr (2, [.int (iI u.2.2.2.2.1), .int (iI u.2.2.2.2.2.1), .int (iI u.2.2.2.2.2.2.1), .int (iI u.2.2.2.2.2.2.2.1)])), (aSt, .inl (gI g, 4, .inl (ar u.2.2.2.2.2.2.2.2.2.2.1))), (aSx, .inl (gI g, 4, .inl (ar u.2.2.2.2.2.2.2.2.2.2.2.1))), (aSy, .inl (gI g, 4, .inl (ar u.2.2.2.2.2.2.2.2.2.2.2.2.1))), (aY, .inr (9, [.ref aYh, .ref aYt, .ref aYc])), (aYh, .inl (gI g, 3, .inl (ar ht))), (aYt, .inl (gI g, 36, .inl (ar yt))), (aTp, .inl (gI g, 200, .inl (ar tp))), (aO, .inl (gl.1, 1, .inr (.inl u.2.2.2.2.2.2.2.2.2.2.2.2.2)))]) u) t) (va_A [(aR, .inr (10, [.ref aG, .ref aP, .ref aH, .ref aY, .ref aT, .ref aS, .ref aF, .ref aX, .int (iI pr), .int (iI tk), .int (iI tol), .int (iI hou)])), (aT, .inr (8, [.ref aTp, .ref aTt, .ref aTx, .ref aTy, .ref aE, .int (iI ld)])), (aE, .inr (2, [.int (iI ex), .int (iI ey), .int (iI ehx), .int (iI ehy)])), (aP, .inr (5, [.ref aPx, .ref aPy, .int (iI pn)])), (aPx, .inl (gI g, 200, .inl (ar bx))), (aPy, .inl (gI g, 200, .inl (ar byy))), (aF, .inr (2, [.int (iI fx), .int (iI fy), .int (iI fhx), .int (iI fhy)])), (aS, .inr (6, [.ref aQ, .ref aSt, .ref aSx, .ref aSy, .int (iI sr), .int (iI sl)])), (aQ, .inr (2, [.int (iI qx), .int (iI qy), .int (iI qhx), .int (iI qhy)])), (aSt, .inl (gI g, 4, .inl (ar st))), (aSx, .inl (gI g, 4, .inl (ar sx))), (aSy, .inl (gI g, 4, .inl (ar sy))), (aY, .inr (9, [.ref aYh, .ref aYt, .ref aYc])), (aYh, .inl (gI g, 3, .inl (ar ht))), (aYt, .inl (gI g, 36, .inl (ar yt))), (aTp, .inl (gI g, 200, .inl (ar tp))), (aO, .inl (gl.1, 1, .inr (.inl lo)))] sz)) 3 18 (va_A [(aR, .inr (10, [.ref aG, .ref aP, .ref aH, .ref aY, .ref aT, .ref aS, .ref aF, .ref aX, .int (iI pr), .int (iI tk), .int (iI tol), .int (iI hou)])), (aT, .inr (8, [.ref aTp, .ref aTt, .ref aTx, .ref aTy, .ref aE, .int (iI ld)])), (aE, .inr (2, [.int (iI ex), .int (iI ey), .int (iI ehx), .int (iI ehy)])), (aP, .inr (5, [.ref aPx, .ref aPy, .int (iI pn)])), (aPx, .inl (gI g, 200, .inl (ar bx))), (aPy, .inl (gI g, 200, .inl (ar byy))), (aF, .inr (2, [.int (iI fx), .int (iI fy), .int (iI fhx), .int (iI fhy)])), (aS, .inr (6, [.ref aQ, .ref aSt, .ref aSx, .ref aSy, .int (iI sr), .int (iI sl)])), (aQ, .inr (2, [.int (iI qx), .int (iI qy), .int (iI qhx), .int (iI qhy)])), (aSt, .inl (gI g, 4, .inl (ar st))), (aSx, .inl (gI g, 4, .inl (ar sx))), (aSy, .inl (gI g, 4, .inl (ar sy))), (aY, .inr (9, [.ref aYh, .ref aYt, .ref aYc])), (aYh, .inl (gI g, 3, .inl (ar ht))), (aYt, .inl (gI g, 36, .inl (ar yt))), (aTp, .inl (gI g, 200, .inl (ar tp))), (aO, .inl (gl.1, 1, .inr (.inl lo)))] sz) := by
  refine x_enterH (y := yL_leastDeviation) (ws := wsL_leastDeviation) (g := g) (sz := sz) (av := [.ref aR, .int (iI sta), .int (iI cnt), .ref aO]) (WS := [(aR, .inr (10, [.ref aG, .ref aP, .ref aH, .ref aY, .ref aT, .ref aS, .ref aF, .ref aX, .int (iI pr), .int (iI tk), .int (iI tol), .int (iI hou)])), (aT, .inr (8, [.ref aTp, .ref aTt, .ref aTx, .ref aTy, .ref aE, .int (iI ld)])), (aE, .inr (2, [.int (iI ex), .int (iI ey), .int (iI ehx), .int (iI ehy)])), (aP, .inr (5, [.ref aPx, .ref aPy, .int (iI pn)])), (aPx, .inl (gI g, 200, .inl (ar bx))), (aPy, .inl (gI g, 200, .inl (ar byy))), (aF, .inr (2, [.int (iI fx), .int (iI fy), .int (iI fhx), .int (iI fhy)])), (aS, .inr (6, [.ref aQ, .ref aSt, .ref aSx, .ref aSy, .int (iI sr), .int (iI sl)])), (aQ, .inr (2, [.int (iI qx), .int (iI qy), .int (iI qhx), .int (iI qhy)])), (aSt, .inl (gI g, 4, .inl (ar st))), (aSx, .inl (gI g, 4, .inl (ar sx))), (aSy, .inl (gI g, 4, .inl (ar sy))), (aY, .inr (9, [.ref aYh, .ref aYt, .ref aYc])), (aYh, .inl (gI g, 3, .inl (ar ht))), (aYt, .inl (gI g, 36, .inl (ar yt))), (aTp, .inl (gI g, 200, .inl (ar tp))), (aO, .inl (gl.1, 1, .inr (.inl lo)))]) (cc := cL_leastDeviation) (maxL := 5) (ret := some .int) (Qc := (fun A => (va_Qi (fun r u => r = iI ((fun (u : Int × Int × Int × Int × Int × Int × Int × Int × Int × Int × (Int → Int) × (Int → Int) × (Int → Int) × (Nat → Int64)) => ldT ht sta cnt) u) ∧ (fun (u : Int × Int × Int × Int × Int × Int × Int × Int × Int × Int × (Int → Int) × (Int → Int) × (Int → Int) × (Nat → Int64)) => (ldT ht sta cnt = 0 → u.2.2.2.2.2.2.2.2.2.2.2.2.2 0 = zL (leaN yt (fun x y => aI (x - plO pn bx (ld + cnt)) + aI (y - plO pn byy (ld + cnt))) cnt.toNat (sta * 12 + (ht sta - 1)) (lastP ld tp) ehx ehy (lastF ld kx) (lastF ld ky))) ∧ bnd u.2.2.2.2.2.2.2.2.2.2.1 0 9 ∧ bnd u.2.2.2.2.2.2.2.2.2.2.2.1 (-5) 5 ∧ bnd u.2.2.2.2.2.2.2.2.2.2.2.2.1 (-5) 5) u) (fun u t => xE g A ((fun (u : Int × Int × Int × Int × Int × Int × Int × Int × Int × Int × (Int → Int) × (Int → Int) × (Int → Int) × (Nat → Int64)) => [(aR, .inr (10, [.ref aG, .ref aP, .ref aH, .ref aY, .ref aT, .ref aS, .ref aF, .ref aX, .int (iI pr), .int (iI tk), .int (iI tol), .int (iI hou)])), (aT, .inr (8, [.ref aTp, .ref aTt, .ref aTx, .ref aTy, .ref aE, .int (iI ld)])), (aE, .inr (2, [.int (iI ex), .int (iI ey), .int (iI ehx), .int (iI ehy)])), (aP, .inr (5, [.ref aPx, .ref aPy, .int (iI pn)])), (aPx, .inl (gI g, 200, .inl (ar bx))), (aPy, .inl (gI g, 200, .inl (ar byy))), (aF, .inr (2, [.int (iI u.1), .int (iI u.2.1), .int (iI u.2.2.1), .int (iI u.2.2.2.1)])), (aS, .inr (6, [.ref aQ, .ref aSt, .ref aSx, .ref aSy, .int (iI u.2.2.2.2.2.2.2.2.1), .int (iI u.2.2.2.2.2.2.2.2.2.1)])), (aQ, .inr (2, [.int (iI u.2.2.2.2.1), .int (iI u.2.2.2.2.2.1), .int (iI u.2.2.2.2.2.2.1), .int (iI u.2.2.2.2.2.2.2.1)])), (aSt, .inl (gI g, 4, .inl (ar u.2.2.2.2.2.2.2.2.2.2.1))), (aSx, .inl (gI g, 4, .inl (ar u.2.2.2.2.2.2.2.2.2.2.2.1))), (aSy, .inl (gI g, 4, .inl (ar u.2.2.2.2.2.2.2.2.2.2.2.2.1))), (aY, .inr (9, [.ref aYh, .ref aYt, .ref aYc])), (aYh, .inl (gI g, 3, .inl (ar ht))), (aYt, .inl (gI g, 36, .inl (ar yt))), (aTp, .inl (gI g, 200, .inl (ar tp))), (aO, .inl (gl.1, 1, .inr (.inl u.2.2.2.2.2.2.2.2.2.2.2.2.2)))]) u) t) A))) (by decide) rfl (Nat.le_of_ble_eq_true rfl) ?_
  intro p e s m args below meth c A ls hx hb hr hml hown hts hlocks htab hL hC hP hD hS hA hl
  have hK := hC.1
  have hown : s.vm.findClass RL = some m.cls := hown
  have hl : lv_has ls 5 [(0, .ref aR), (1, .int (iI sta)), (2, .int (iI cnt)), (3, .ref aO)] := hl
  obtain ⟨H, hH⟩ : ∃ z, z = s.heap := ⟨_, rfl⟩
  obtain ⟨locs, hlo⟩ : ∃ z : List Loc, z = [] := ⟨_, rfl⟩
  obtain ⟨Q9, hQ9⟩ : ∃ z, z = MQ below (va_Qi (fun r u => r = iI ((fun (u : Int × Int × Int × Int × Int × Int × Int × Int × Int × Int × (Int → Int) × (Int → Int) × (Int → Int) × (Nat → Int64)) => ldT ht sta cnt) u) ∧ (fun (u : Int × Int × Int × Int × Int × Int × Int × Int × Int × Int × (Int → Int) × (Int → Int) × (Int → Int) × (Nat → Int64)) => (ldT ht sta cnt = 0 → u.2.2.2.2.2.2.2.2.2.2.2.2.2 0 = zL (leaN yt (fun x y => aI (x - plO pn bx (ld + cnt)) + aI (y - plO pn byy (ld + cnt))) cnt.toNat (sta * 12 + (ht sta - 1)) (lastP ld tp) ehx ehy (lastF ld kx) (lastF ld ky))) ∧ bnd u.2.2.2.2.2.2.2.2.2.2.1 0 9 ∧ bnd u.2.2.2.2.2.2.2.2.2.2.2.1 (-5) 5 ∧ bnd u.2.2.2.2.2.2.2.2.2.2.2.2.1 (-5) 5) u) (fun u t => xE g A ((fun (u : Int × Int × Int × Int × Int × Int × Int × Int × Int × Int × (Int → Int) × (Int → Int) × (Int → Int) × (Nat → Int64)) => [(aR, .inr (10, [.ref aG, .ref aP, .ref aH, .ref aY, .ref aT, .ref aS, .ref aF, .ref aX, .int (iI pr), .int (iI tk), .int (iI tol), .int (iI hou)])), (aT, .inr (8, [.ref aTp, .ref aTt, .ref aTx, .ref aTy, .ref aE, .int (iI ld)])), (aE, .inr (2, [.int (iI ex), .int (iI ey), .int (iI ehx), .int (iI ehy)])), (aP, .inr (5, [.ref aPx, .ref aPy, .int (iI pn)])), (aPx, .inl (gI g, 200, .inl (ar bx))), (aPy, .inl (gI g, 200, .inl (ar byy))), (aF, .inr (2, [.int (iI u.1), .int (iI u.2.1), .int (iI u.2.2.1), .int (iI u.2.2.2.1)])), (aS, .inr (6, [.ref aQ, .ref aSt, .ref aSx, .ref aSy, .int (iI u.2.2.2.2.2.2.2.2.1), .int (iI u.2.2.2.2.2.2.2.2.2.1)])), (aQ, .inr (2, [.int (iI u.2.2.2.2.1), .int (iI u.2.2.2.2.2.1), .int (iI u.2.2.2.2.2.2.1), .int (iI u.2.2.2.2.2.2.2.1)])), (aSt, .inl (gI g, 4, .inl (ar u.2.2.2.2.2.2.2.2.2.2.1))), (aSx, .inl (gI g, 4, .inl (ar u.2.2.2.2.2.2.2.2.2.2.2.1))), (aSy, .inl (gI g, 4, .inl (ar u.2.2.2.2.2.2.2.2.2.2.2.2.1))), (aY, .inr (9, [.ref aYh, .ref aYt, .ref aYc])), (aYh, .inl (gI g, 3, .inl (ar ht))), (aYt, .inl (gI g, 36, .inl (ar yt))), (aTp, .inl (gI g, 200, .inl (ar tp))), (aO, .inl (gl.1, 1, .inr (.inl u.2.2.2.2.2.2.2.2.2.2.2.2.2)))]) u) t) A) args s 3 18 A := ⟨_, rfl⟩
  have hP : va_P (gD g) vwCl [(aR, .inr (10, [.ref aG, .ref aP, .ref aH, .ref aY, .ref aT, .ref aS, .ref aF, .ref aX, .int (iI pr), .int (iI tk), .int (iI tol), .int (iI hou)])), (aT, .inr (8, [.ref aTp, .ref aTt, .ref aTx, .ref aTy, .ref aE, .int (iI ld)])), (aE, .inr (2, [.int (iI ex), .int (iI ey), .int (iI ehx), .int (iI ehy)])), (aP, .inr (5, [.ref aPx, .ref aPy, .int (iI pn)])), (aPx, .inl (gI g, 200, .inl (ar bx))), (aPy, .inl (gI g, 200, .inl (ar byy))), (aF, .inr (2, [.int (iI fx), .int (iI fy), .int (iI fhx), .int (iI fhy)])), (aS, .inr (6, [.ref aQ, .ref aSt, .ref aSx, .ref aSy, .int (iI sr), .int (iI sl)])), (aQ, .inr (2, [.int (iI qx), .int (iI qy), .int (iI qhx), .int (iI qhy)])), (aSt, .inl (gI g, 4, .inl (ar st))), (aSx, .inl (gI g, 4, .inl (ar sx))), (aSy, .inl (gI g, 4, .inl (ar sy))), (aY, .inr (9, [.ref aYh, .ref aYt, .ref aYc])), (aYh, .inl (gI g, 3, .inl (ar ht))), (aYt, .inl (gI g, 36, .inl (ar yt))), (aTp, .inl (gI g, 200, .inl (ar tp))), (aO, .inl (gl.1, 1, .inr (.inl lo)))] H := by rw [hH]; exact hP
  have hS : va_S A s.heap H locs := by rw [hH, hlo]; exact hS
  have goal_ : W p l e { frames := 9, cells := 3, slots := 18, locals := 199 } s m args below meth c H locs 0 0 Q9 (F0 m 0 ls []) := by
    clear hH hlo
    refine lv_aload_n hx hb dL_leastDeviation_0 rfl (lv_at hl 3 rfl) ?_
    refine x_iconst hx hb dL_leastDeviation_1 ?_
    refine lv_aload_n hx hb dL_leastDeviation_2 rfl (lv_at hl 0 rfl) ?_
    refine lv_iload_n hx hb dL_leastDeviation_3 rfl (lv_at hl 1 rfl) ?_
    refine lv_iload_n hx hb dL_leastDeviation_4 rfl (lv_at hl 2 rfl) ?_
    refine x_calliX (S := Int × Int × Int × Int × Int × Int × Int × Int × Int × Int × (Int → Int) × (Int → Int) × (Int → Int)) (SX := Unit) (wc := [(aR, .inr (10, [.ref aG, .ref aP, .ref aH, .ref aY, .ref aT, .ref aS, .ref aF, .ref aX, .int (iI pr), .int (iI tk), .int (iI tol), .int (iI hou)])), (aT, .inr (8, [.ref aTp, .ref aTt, .ref aTx, .ref aTy, .ref aE, .int (iI ld)])), (aE, .inr (2, [.int (iI ex), .int (iI ey), .int (iI ehx), .int (iI ehy)])), (aP, .inr (5, [.ref aPx, .ref aPy, .int (iI pn)])), (aPx, .inl (gI g, 200, .inl (ar bx))), (aPy, .inl (gI g, 200, .inl (ar byy))), (aF, .inr (2, [.int (iI fx), .int (iI fy), .int (iI fhx), .int (iI fhy)])), (aS, .inr (6, [.ref aQ, .ref aSt, .ref aSx, .ref aSy, .int (iI sr), .int (iI sl)])), (aQ, .inr (2, [.int (iI qx), .int (iI qy), .int (iI qhx), .int (iI qhy)])), (aSt, .inl (gI g, 4, .inl (ar st))), (aSx, .inl (gI g, 4, .inl (ar sx))), (aSy, .inl (gI g, 4, .inl (ar sy))), (aY, .inr (9, [.ref aYh, .ref aYt, .ref aYc])), (aYh, .inl (gI g, 3, .inl (ar ht))), (aYt, .inl (gI g, 36, .inl (ar yt))), (aTp, .inl (gI g, 200, .inl (ar tp)))]) (wr := [(aO, .inl (gl.1, 1, .inr (.inl lo)))]) hC hP hD hS hA [0, 1, 2, 3, 4, 5, 6, 7, 8, 9, 10, 11, 12, 13, 14, 15] [16] [1, 2, 3, 4, 5, 6, 7, 8, 9, 10, 11, 12, 13, 14, 15, 16, 0] rfl rfl (fun hpre => vx_runV (As := [.int (iI sta), .int (iI cnt)]) (rest := [.int (iI 0), .ref aO]) ⟨hx, hb, hml, hown, hts⟩ (c_X8_leastDeviation l hflags g H.size aR aG aP aH aY aT aS aF aX aTp aTt aTx aTy aE aPx aPy aQ aSt aSx aSy aYh aYt aYc pr tk tol hou ld ex ey ehx ehy pn fx fy fhx fhy sr sl qx qy qhx qhy sta cnt bx byy st sx sy ht yt tp kx ky (by first | (first | assumption | omega | exact bnd_up (by assumption) (by omega) (by omega)) | fail "q8") (by first | (first | assumption | omega | exact bnd_up (by assumption) (by omega) (by omega)) | fail "q8") (by first | (first | assumption | omega | exact bnd_up (by assumption) (by omega) (by omega)) | fail "q8") (by first | (first | assumption | omega | exact bnd_up (by assumption) (by omega) (by omega)) | fail "q8") (by first | (first | assumption | omega | exact bnd_up (by assumption) (by omega) (by omega)) | fail "q8") (by first | (first | assumption | omega | exact bnd_up (by assumption) (by omega) (by omega)) | fail "q8") (by first | (first | assumption | omega | exact bnd_up (by assumption) (by omega) (by omega)) | fail "q8") (by first | (first | assumption | omega | exact bnd_up (by assumption) (by omega) (by omega)) | fail "q8") (by first | (first | assumption | omega | exact bnd_up (by assumption) (by omega) (by omega)) | fail "q8") (by first | (first | assumption | omega | exact bnd_up (by assumption) (by omega) (by omega)) | fail "q8") (by first | (first | assumption | omega | exact bnd_up (by assumption) (by omega) (by omega)) | fail "q8") (by first | (first | assumption | omega | exact bnd_up (by assumption) (by omega) (by omega)) | fail "q8") (by first | (first | assumption | omega | exact bnd_up (by assumption) (by omega) (by omega)) | fail "q8") (by first | (first | assumption | omega | exact bnd_up (by assumption) (by omega) (by omega)) | fail "q8") (by first | (first | assumption | omega | exact bnd_up (by assumption) (by omega) (by omega)) | fail "q8") (by first | (first | assumption | omega | exact bnd_up (by assumption) (by omega) (by omega)) | fail "q8") (by first | (first | assumption | omega | exact bnd_up (by assumption) (by omega) (by omega)) | fail "q8") (by first | (first | assumption | omega | exact bnd_up (by assumption) (by omega) (by omega)) | fail "q8")) (cwV 2 hts gL_leastDeviation_X8_leastDeviation rfl rfl rfl (by decide +kernel) ⟨Nat.le_of_ble_eq_true rfl, Nat.le_of_ble_eq_true rfl⟩) ⟨xB_blind, va_recv hK hP (ci := 10) (q0 := 0) rfl rfl, hpre _⟩ rfl rfl hl.1 rfl (lv_room (Nat.le_of_ble_eq_true rfl)) dL_leastDeviation_5 ⟨Nat.le_of_ble_eq_true rfl, Nat.le_of_ble_eq_true rfl⟩) (fun (u : Int × Int × Int × Int × Int × Int × Int × Int × Int × Int × (Int → Int) × (Int → Int) × (Int → Int)) => [(aR, .inr (10, [.ref aG, .ref aP, .ref aH, .ref aY, .ref aT, .ref aS, .ref aF, .ref aX, .int (iI pr), .int (iI tk), .int (iI tol), .int (iI hou)])), (aT, .inr (8, [.ref aTp, .ref aTt, .ref aTx, .ref aTy, .ref aE, .int (iI ld)])), (aE, .inr (2, [.int (iI ex), .int (iI ey), .int (iI ehx), .int (iI ehy)])), (aP, .inr (5, [.ref aPx, .ref aPy, .int (iI pn)])), (aPx, .inl (gI g, 200, .inl (ar bx))), (aPy, .inl (gI g, 200, .inl (ar byy))), (aF, .inr (2, [.int (iI u.1), .int (iI u.2.1), .int (iI u.2.2.1), .int (iI u.2.2.2.1)])), (aS, .inr (6, [.ref aQ, .ref aSt, .ref aSx, .ref aSy, .int (iI u.2.2.2.2.2.2.2.2.1), .int (iI u.2.2.2.2.2.2.2.2.2.1)])), (aQ, .inr (2, [.int (iI u.2.2.2.2.1), .int (iI u.2.2.2.2.2.1), .int (iI u.2.2.2.2.2.2.1), .int (iI u.2.2.2.2.2.2.2.1)])), (aSt, .inl (gI g, 4, .inl (ar u.2.2.2.2.2.2.2.2.2.2.1))), (aSx, .inl (gI g, 4, .inl (ar u.2.2.2.2.2.2.2.2.2.2.2.1))), (aSy, .inl (gI g, 4, .inl (ar u.2.2.2.2.2.2.2.2.2.2.2.2))), (aY, .inr (9, [.ref aYh, .ref aYt, .ref aYc])), (aYh, .inl (gI g, 3, .inl (ar ht))), (aYt, .inl (gI g, 36, .inl (ar yt))), (aTp, .inl (gI g, 200, .inl (ar tp))), (aO, .inl (gl.1, 1, .inr (.inl lo)))]) (fun (u : Unit) => ([(aR, .inr (10, [.ref aG, .ref aP, .ref aH, .ref aY, .ref aT, .ref aS, .ref aF, .ref aX, .int (iI pr), .int (iI tk), .int (iI tol), .int (iI hou)])), (aT, .inr (8, [.ref aTp, .ref aTt, .ref aTx, .ref aTy, .ref aE, .int (iI ld)])), (aE, .inr (2, [.int (iI ex), .int (iI ey), .int (iI ehx), .int (iI ehy)])), (aP, .inr (5, [.ref aPx, .ref aPy, .int (iI pn)])), (aPx, .inl (gI g, 200, .inl (ar bx))), (aPy, .inl (gI g, 200, .inl (ar byy))), (aF, .inr (2, [.int (iI fx), .int (iI fy), .int (iI fhx), .int (iI fhy)])), (aS, .inr (6, [.ref aQ, .ref aSt, .ref aSx, .ref aSy, .int (iI sr), .int (iI sl)])), (aQ, .inr (2, [.int (iI qx), .int (iI qy), .int (iI qhx), .int (iI qhy)])), (aSt, .inl (gI g, 4, .inl (ar st))), (aSx, .inl (gI g, 4, .inl (ar sx))), (aSy, .inl (gI g, 4, .inl (ar sy))), (aY, .inr (9, [.ref aYh, .ref aYt, .ref aYc])), (aYh, .inl (gI g, 3, .inl (ar ht))), (aYt, .inl (gI g, 36, .inl (ar yt))), (aTp, .inl (gI g, 200, .inl (ar tp))), (aO, .inl (gl.1, 1, .inr (.inl lo)))] : va_W)) rfl rfl (by decide) (fun _ => rfl) (fun _ => rfl) rfl (fun E ce q9 u H locs hXP hPX hP hD hS hcell hv9 hcl => ?_) (fun u v_14 H locs hv_14 pv_14 hP hD hS => ?_)
    · skip
      have hP : va_P (gD g) vwCl [(aR, .inr (10, [.ref aG, .ref aP, .ref aH, .ref aY, .ref aT, .ref aS, .ref aF, .ref aX, .int (iI pr), .int (iI tk), .int (iI tol), .int (iI hou)])), (aT, .inr (8, [.ref aTp, .ref aTt, .ref aTx, .ref aTy, .ref aE, .int (iI ld)])), (aE, .inr (2, [.int (iI ex), .int (iI ey), .int (iI ehx), .int (iI ehy)])), (aP, .inr (5, [.ref aPx, .ref aPy, .int (iI pn)])), (aPx, .inl (gI g, 200, .inl (ar bx))), (aPy, .inl (gI g, 200, .inl (ar byy))), (aF, .inr (2, [.int (iI fx), .int (iI fy), .int (iI fhx), .int (iI fhy)])), (aS, .inr (6, [.ref aQ, .ref aSt, .ref aSx, .ref aSy, .int (iI sr), .int (iI sl)])), (aQ, .inr (2, [.int (iI qx), .int (iI qy), .int (iI qhx), .int (iI qhy)])), (aSt, .inl (gI g, 4, .inl (ar st))), (aSx, .inl (gI g, 4, .inl (ar sx))), (aSy, .inl (gI g, 4, .inl (ar sy))), (aY, .inr (9, [.ref aYh, .ref aYt, .ref aYc])), (aYh, .inl (gI g, 3, .inl (ar ht))), (aYt, .inl (gI g, 36, .inl (ar yt))), (aTp, .inl (gI g, 200, .inl (ar tp))), (aO, .inl (gl.1, 1, .inr (.inl lo)))] H := hP
      have hD : va_D A [(aR, .inr (10, [.ref aG, .ref aP, .ref aH, .ref aY, .ref aT, .ref aS, .ref aF, .ref aX, .int (iI pr), .int (iI tk), .int (iI tol), .int (iI hou)])), (aT, .inr (8, [.ref aTp, .ref aTt, .ref aTx, .ref aTy, .ref aE, .int (iI ld)])), (aE, .inr (2, [.int (iI ex), .int (iI ey), .int (iI ehx), .int (iI ehy)])), (aP, .inr (5, [.ref aPx, .ref aPy, .int (iI pn)])), (aPx, .inl (gI g, 200, .inl (ar bx))), (aPy, .inl (gI g, 200, .inl (ar byy))), (aF, .inr (2, [.int (iI fx), .int (iI fy), .int (iI fhx), .int (iI fhy)])), (aS, .inr (6, [.ref aQ, .ref aSt, .ref aSx, .ref aSy, .int (iI sr), .int (iI sl)])), (aQ, .inr (2, [.int (iI qx), .int (iI qy), .int (iI qhx), .int (iI qhy)])), (aSt, .inl (gI g, 4, .inl (ar st))), (aSx, .inl (gI g, 4, .inl (ar sx))), (aSy, .inl (gI g, 4, .inl (ar sy))), (aY, .inr (9, [.ref aYh, .ref aYt, .ref aYc])), (aYh, .inl (gI g, 3, .inl (ar ht))), (aYt, .inl (gI g, 36, .inl (ar yt))), (aTp, .inl (gI g, 200, .inl (ar tp))), (aO, .inl (gl.1, 1, .inr (.inl lo)))] := hD
      rcases hPX with ⟨hE, hp⟩ | ⟨hE, hp⟩ | ⟨hE, hp⟩
      · skip
        have hp : ldT ht sta cnt = 1 := hp
        subst hE
        refine vx_catch (E := "java/lang/IndexOutOfBoundsException") (name := "java/lang/IndexOutOfBoundsException") hown [] ⟨0, 10, 13, 24⟩ [⟨0, 10, 17, 13⟩, ⟨0, 10, 21, 43⟩] (by rw [htab]; rfl) (fun z hz => by cases hz) (by decide) (by decide) (hts (.classLink RL 24 "java/lang/IndexOutOfBoundsException") (List.mem_of_getElem? (i := 1) rfl)) (va_Nw.use rfl (hC.2.2.2.2.2.2.2.2.2.2.1 "java/lang/IndexOutOfBoundsException" (List.mem_of_getElem? (i := 2) rfl))) hcell hv9 hcl ?_
        refine lv_astore (lv' := [(4, .ref q9), (0, .ref aR), (1, .int (iI sta)), (2, .int (iI cnt)), (3, .ref aO)]) hx hb dL_leastDeviation_13 hl (by decide) rfl (fun ls hl => ?_)
        refine x_iconst hx hb dL_leastDeviation_15 ?_
        rw [hQ9]
        exact x_iret hx hb hr hlocks hP hD hS (S := Int × Int × Int × Int × Int × Int × Int × Int × Int × Int × (Int → Int) × (Int → Int) × (Int → Int) × (Nat → Int64)) rfl dL_leastDeviation_16 ⟨fx, fy, fhx, fhy, qx, qy, qhx, qhy, sr, sl, st, sx, sy, lo⟩ (by
            first
            | (
               first | omega | (subst_vars; omega))
            | fail "q9") (by
            first
            | (
               refine ⟨fun h0 => ?_, ?_⟩
               · first | (exfalso; omega) | ((try dsimp only); rw [zl_up]; subst_vars; rfl) | ((try dsimp only); rw [zl_up]; congr 1)
               · first | exact hjk | exact hjk.2 | exact hXP | exact ⟨hb_st, hb_sx, hb_sy⟩)
            | fail "q9") rfl (Nat.le_of_ble_eq_true rfl) (Nat.le_of_ble_eq_true rfl)
      · skip
        have hp : ldT ht sta cnt = 2 := hp
        subst hE
        refine vx_catch (E := "java/lang/IllegalArgumentException") (name := "java/lang/IllegalArgumentException") hown [⟨0, 10, 13, 24⟩] ⟨0, 10, 17, 13⟩ [⟨0, 10, 21, 43⟩] (by rw [htab]; rfl) (fun z hz => by rcases List.mem_cons.mp hz with rfl | hz; exact Or.inr ⟨by decide, "java/lang/IndexOutOfBoundsException", (hts (.classLink RL 24 "java/lang/IndexOutOfBoundsException") (List.mem_of_getElem? (i := 1) rfl)), hL.2 ("java/lang/IllegalArgumentException", "java/lang/IndexOutOfBoundsException") (List.mem_of_getElem? (i := 1) (by decide +kernel))⟩; cases hz) (by decide) (by decide) (hts (.classLink RL 13 "java/lang/IllegalArgumentException") (List.mem_of_getElem? (i := 2) rfl)) (va_Nw.use rfl (hC.2.2.2.2.2.2.2.2.2.2.1 "java/lang/IllegalArgumentException" (List.mem_of_getElem? (i := 0) rfl))) hcell hv9 hcl ?_
        refine lv_astore (lv' := [(4, .ref q9), (0, .ref aR), (1, .int (iI sta)), (2, .int (iI cnt)), (3, .ref aO)]) hx hb dL_leastDeviation_17 hl (by decide) rfl (fun ls hl => ?_)
        refine x_iconst hx hb dL_leastDeviation_19 ?_
        rw [hQ9]
        exact x_iret hx hb hr hlocks hP hD hS (S := Int × Int × Int × Int × Int × Int × Int × Int × Int × Int × (Int → Int) × (Int → Int) × (Int → Int) × (Nat → Int64)) rfl dL_leastDeviation_20 ⟨fx, fy, fhx, fhy, qx, qy, qhx, qhy, sr, sl, st, sx, sy, lo⟩ (by
            first
            | (
               first | omega | (subst_vars; omega))
            | fail "q9") (by
            first
            | (
               refine ⟨fun h0 => ?_, ?_⟩
               · first | (exfalso; omega) | ((try dsimp only); rw [zl_up]; subst_vars; rfl) | ((try dsimp only); rw [zl_up]; congr 1)
               · first | exact hjk | exact hjk.2 | exact hXP | exact ⟨hb_st, hb_sx, hb_sy⟩)
            | fail "q9") rfl (Nat.le_of_ble_eq_true rfl) (Nat.le_of_ble_eq_true rfl)
      · skip
        have hp : ldT ht sta cnt = 3 := hp
        subst hE
        refine vx_catch (E := "java/util/NoSuchElementException") (name := "java/util/NoSuchElementException") hown [⟨0, 10, 13, 24⟩, ⟨0, 10, 17, 13⟩] ⟨0, 10, 21, 43⟩ [] (by rw [htab]; rfl) (fun z hz => by rcases List.mem_cons.mp hz with rfl | hz; exact Or.inr ⟨by decide, "java/lang/IndexOutOfBoundsException", (hts (.classLink RL 24 "java/lang/IndexOutOfBoundsException") (List.mem_of_getElem? (i := 1) rfl)), hL.2 ("java/util/NoSuchElementException", "java/lang/IndexOutOfBoundsException") (List.mem_of_getElem? (i := 17) (by decide +kernel))⟩; rcases List.mem_cons.mp hz with rfl | hz; exact Or.inr ⟨by decide, "java/lang/IllegalArgumentException", (hts (.classLink RL 13 "java/lang/IllegalArgumentException") (List.mem_of_getElem? (i := 2) rfl)), hL.2 ("java/util/NoSuchElementException", "java/lang/IllegalArgumentException") (List.mem_of_getElem? (i := 15) (by decide +kernel))⟩; cases hz) (by decide) (by decide) (hts (.classLink RL 43 "java/util/NoSuchElementException") (List.mem_of_getElem? (i := 3) rfl)) (va_Nw.use rfl (hC.2.2.2.2.2.2.2.2.2.2.1 "java/util/NoSuchElementException" (List.mem_of_getElem? (i := 3) rfl))) hcell hv9 hcl ?_
        refine lv_astore (lv' := [(4, .ref q9), (0, .ref aR), (1, .int (iI sta)), (2, .int (iI cnt)), (3, .ref aO)]) hx hb dL_leastDeviation_21 hl (by decide) rfl (fun ls hl => ?_)
        refine x_iconst hx hb dL_leastDeviation_23 ?_
        rw [hQ9]
        exact x_iret hx hb hr hlocks hP hD hS (S := Int × Int × Int × Int × Int × Int × Int × Int × Int × Int × (Int → Int) × (Int → Int) × (Int → Int) × (Nat → Int64)) rfl dL_leastDeviation_24 ⟨fx, fy, fhx, fhy, qx, qy, qhx, qhy, sr, sl, st, sx, sy, lo⟩ (by
            first
            | (
               first | omega | (subst_vars; omega))
            | fail "q9") (by
            first
            | (
               refine ⟨fun h0 => ?_, ?_⟩
               · first | (exfalso; omega) | ((try dsimp only); rw [zl_up]; subst_vars; rfl) | ((try dsimp only); rw [zl_up]; congr 1)
               · first | exact hjk | exact hjk.2 | exact hXP | exact ⟨hb_st, hb_sx, hb_sy⟩)
            | fail "q9") rfl (Nat.le_of_ble_eq_true rfl) (Nat.le_of_ble_eq_true rfl)
    · skip
      obtain ⟨fx_o_1, fy_o_2, fhx_o_3, fhy_o_4, qx_o_5, qy_o_6, qhx_o_7, qhy_o_8, sr_o_9, sl_o_10, st_o_11, sx_o_12, sy_o_13⟩ := u
      have hP : va_P (gD g) vwCl [(aR, .inr (10, [.ref aG, .ref aP, .ref aH, .ref aY, .ref aT, .ref aS, .ref aF, .ref aX, .int (iI pr), .int (iI tk), .int (iI tol), .int (iI hou)])), (aT, .inr (8, [.ref aTp, .ref aTt, .ref aTx, .ref aTy, .ref aE, .int (iI ld)])), (aE, .inr (2, [.int (iI ex), .int (iI ey), .int (iI ehx), .int (iI ehy)])), (aP, .inr (5, [.ref aPx, .ref aPy, .int (iI pn)])), (aPx, .inl (gI g, 200, .inl (ar bx))), (aPy, .inl (gI g, 200, .inl (ar byy))), (aF, .inr (2, [.int (iI fx_o_1), .int (iI fy_o_2), .int (iI fhx_o_3), .int (iI fhy_o_4)])), (aS, .inr (6, [.ref aQ, .ref aSt, .ref aSx, .ref aSy, .int (iI sr_o_9), .int (iI sl_o_10)])), (aQ, .inr (2, [.int (iI qx_o_5), .int (iI qy_o_6), .int (iI qhx_o_7), .int (iI qhy_o_8)])), (aSt, .inl (gI g, 4, .inl (ar st_o_11))), (aSx, .inl (gI g, 4, .inl (ar sx_o_12))), (aSy, .inl (gI g, 4, .inl (ar sy_o_13))), (aY, .inr (9, [.ref aYh, .ref aYt, .ref aYc])), (aYh, .inl (gI g, 3, .inl (ar ht))), (aYt, .inl (gI g, 36, .inl (ar yt))), (aTp, .inl (gI g, 200, .inl (ar tp))), (aO, .inl (gl.1, 1, .inr (.inl lo)))] H := hP
      have hD : va_D A [(aR, .inr (10, [.ref aG, .ref aP, .ref aH, .ref aY, .ref aT, .ref aS, .ref aF, .ref aX, .int (iI pr), .int (iI tk), .int (iI tol), .int (iI hou)])), (aT, .inr (8, [.ref aTp, .ref aTt, .ref aTx, .ref aTy, .ref aE, .int (iI ld)])), (aE, .inr (2, [.int (iI ex), .int (iI ey), .int (iI ehx), .int (iI ehy)])), (aP, .inr (5, [.ref aPx, .ref aPy, .int (iI pn)])), (aPx, .inl (gI g, 200, .inl (ar bx))), (aPy, .inl (gI g, 200, .inl (ar byy))), (aF, .inr (2, [.int (iI fx_o_1), .int (iI fy_o_2), .int (iI fhx_o_3), .int (iI fhy_o_4)])), (aS, .inr (6, [.ref aQ, .ref aSt, .ref aSx, .ref aSy, .int (iI sr_o_9), .int (iI sl_o_10)])), (aQ, .inr (2, [.int (iI qx_o_5), .int (iI qy_o_6), .int (iI qhx_o_7), .int (iI qhy_o_8)])), (aSt, .inl (gI g, 4, .inl (ar st_o_11))), (aSx, .inl (gI g, 4, .inl (ar sx_o_12))), (aSy, .inl (gI g, 4, .inl (ar sy_o_13))), (aY, .inr (9, [.ref aYh, .ref aYt, .ref aYc])), (aYh, .inl (gI g, 3, .inl (ar ht))), (aYt, .inl (gI g, 36, .inl (ar yt))), (aTp, .inl (gI g, 200, .inl (ar tp))), (aO, .inl (gl.1, 1, .inr (.inl lo)))] := hD
      have hv_14 : v_14 = leaN yt (fun x y => aI (x - plO pn bx (ld + cnt)) + aI (y - plO pn byy (ld + cnt))) cnt.toNat (sta * 12 + (ht sta - 1)) (lastP ld tp) ehx ehy (lastF ld kx) (lastF ld ky) := hv_14
      obtain ⟨tv_14, pv_14⟩ := pv_14
      have tv_14 : ldT ht sta cnt = 0 := tv_14
      have pv_14 : bnd st_o_11 0 9 ∧ bnd sx_o_12 (-5) 5 ∧ bnd sy_o_13 (-5) 5 := by first | exact pv_14 | (rw [hv_14]; exact pv_14)
      have hjk := pv_14
      refine x_i2z hx hb dL_leastDeviation_8 ?_
      refine va_last hx hb hL.1 hP hD hS 16 0 rfl rfl zl_in dL_leastDeviation_9 (fun H locs hP hD hS => ?_)
      have hP : va_P (gD g) vwCl [(aR, .inr (10, [.ref aG, .ref aP, .ref aH, .ref aY, .ref aT, .ref aS, .ref aF, .ref aX, .int (iI pr), .int (iI tk), .int (iI tol), .int (iI hou)])), (aT, .inr (8, [.ref aTp, .ref aTt, .ref aTx, .ref aTy, .ref aE, .int (iI ld)])), (aE, .inr (2, [.int (iI ex), .int (iI ey), .int (iI ehx), .int (iI ehy)])), (aP, .inr (5, [.ref aPx, .ref aPy, .int (iI pn)])), (aPx, .inl (gI g, 200, .inl (ar bx))), (aPy, .inl (gI g, 200, .inl (ar byy))), (aF, .inr (2, [.int (iI fx_o_1), .int (iI fy_o_2), .int (iI fhx_o_3), .int (iI fhy_o_4)])), (aS, .inr (6, [.ref aQ, .ref aSt, .ref aSx, .ref aSy, .int (iI sr_o_9), .int (iI sl_o_10)])), (aQ, .inr (2, [.int (iI qx_o_5), .int (iI qy_o_6), .int (iI qhx_o_7), .int (iI qhy_o_8)])), (aSt, .inl (gI g, 4, .inl (ar st_o_11))), (aSx, .inl (gI g, 4, .inl (ar sx_o_12))), (aSy, .inl (gI g, 4, .inl (ar sy_o_13))), (aY, .inr (9, [.ref aYh, .ref aYt, .ref aYc])), (aYh, .inl (gI g, 3, .inl (ar ht))), (aYt, .inl (gI g, 36, .inl (ar yt))), (aTp, .inl (gI g, 200, .inl (ar tp))), (aO, .inl (gl.1, 1, .inr (.inl (vp_updL lo (iI 0).toNatClampNeg (zL v_14)))))] H := hP
      have hD : va_D A [(aR, .inr (10, [.ref aG, .ref aP, .ref aH, .ref aY, .ref aT, .ref aS, .ref aF, .ref aX, .int (iI pr), .int (iI tk), .int (iI tol), .int (iI hou)])), (aT, .inr (8, [.ref aTp, .ref aTt, .ref aTx, .ref aTy, .ref aE, .int (iI ld)])), (aE, .inr (2, [.int (iI ex), .int (iI ey), .int (iI ehx), .int (iI ehy)])), (aP, .inr (5, [.ref aPx, .ref aPy, .int (iI pn)])), (aPx, .inl (gI g, 200, .inl (ar bx))), (aPy, .inl (gI g, 200, .inl (ar byy))), (aF, .inr (2, [.int (iI fx_o_1), .int (iI fy_o_2), .int (iI fhx_o_3), .int (iI fhy_o_4)])), (aS, .inr (6, [.ref aQ, .ref aSt, .ref aSx, .ref aSy, .int (iI sr_o_9), .int (iI sl_o_10)])), (aQ, .inr (2, [.int (iI qx_o_5), .int (iI qy_o_6), .int (iI qhx_o_7), .int (iI qhy_o_8)])), (aSt, .inl (gI g, 4, .inl (ar st_o_11))), (aSx, .inl (gI g, 4, .inl (ar sx_o_12))), (aSy, .inl (gI g, 4, .inl (ar sy_o_13))), (aY, .inr (9, [.ref aYh, .ref aYt, .ref aYc])), (aYh, .inl (gI g, 3, .inl (ar ht))), (aYt, .inl (gI g, 36, .inl (ar yt))), (aTp, .inl (gI g, 200, .inl (ar tp))), (aO, .inl (gl.1, 1, .inr (.inl (vp_updL lo (iI 0).toNatClampNeg (zL v_14)))))] := hD
      refine lv_goto (tgt := 25) hx hb dL_leastDeviation_10 (by decide) ?_
      refine x_iconst hx hb dL_leastDeviation_25 ?_
      rw [hQ9]
      exact x_iret hx hb hr hlocks hP hD hS (S := Int × Int × Int × Int × Int × Int × Int × Int × Int × Int × (Int → Int) × (Int → Int) × (Int → Int) × (Nat → Int64)) rfl dL_leastDeviation_26 ⟨fx_o_1, fy_o_2, fhx_o_3, fhy_o_4, qx_o_5, qy_o_6, qhx_o_7, qhy_o_8, sr_o_9, sl_o_10, st_o_11, sx_o_12, sy_o_13, (vp_updL lo (iI 0).toNatClampNeg (zL v_14))⟩ (by
          first
          | (
             first | omega | (subst_vars; omega))
          | fail "q9") (by
          first
          | (
             refine ⟨fun h0 => ?_, ?_⟩
             · first | (exfalso; omega) | ((try dsimp only); rw [zl_up]; subst_vars; rfl) | ((try dsimp only); rw [zl_up]; congr 1)
             · first | exact hjk | exact hjk.2 | exact hXP | exact ⟨hb_st, hb_sx, hb_sy⟩)
          | fail "q9") rfl (Nat.le_of_ble_eq_true rfl) (Nat.le_of_ble_eq_true rfl)
  rw [hH, hlo, hQ9] at goal_
  exact goal_

set_option maxHeartbeats 4000000 in
set_option maxRecDepth 100000 in
theorem c_L_leastByTrying (l : Launch) (hflags : l.stackTraces = false) (g : xg) (gl : ClassId × ClassId) (sz : Nat) (aR aG aP aH aY aT aS aF aX aTp aTt aTx aTy aE aPx aPy aQ aSt aSx aSy aYh aYt aYc aO : Nat) (pr tk tol hou ld ex ey ehx ehy pn fx fy fhx fhy sr sl qx qy qhx qhy sta cnt : Int) (bx byy st sx sy ht yt tp : Int → Int) (kx : Int → Int) (ky : Int → Int) (lo : Nat → Int64) (hld : 0 ≤ ld ∧ ld ≤ 200) (hpn : 0 ≤ pn ∧ pn ≤ 200) (hb_bx : bnd bx (-5) 5) (hb_byy : bnd byy (-5) 5) (hb_yt : bnd yt 0 9) (hb_ht : bnd ht 0 12) (hb_tp : bnd tp 0 7) (hehx : -2000 ≤ ehx ∧ ehx ≤ 2000) (hehy : -2000 ≤ ehy ∧ ehy ≤ 2000) (hex : -400000 ≤ ex ∧ ex ≤ 400000) (hey : -400000 ≤ ey ∧ ey ≤ 400000) (hb_st : bnd st 0 9) (hb_sx : bnd sx (-5) 5) (hb_sy : bnd sy (-5) 5) (helx : ex = lastF ld kx) (hely : ey = lastF ld ky) (hr_sta : iR sta) (hr_cnt : iR cnt) : Met l yL_leastByTrying wsL_leastByTrying { frames := 9, cells := 3, slots := 18, locals := 199 } (va_Pc [.ref aR, .int (iI sta), .int (iI cnt), .ref aO] (xBL g gl [(aR, .inr (10, [.ref aG, .ref aP, .ref aH, .ref aY, .ref aT, .ref aS, .ref aF, .ref aX, .int (iI pr), .int (iI tk), .int (iI tol), .int (iI hou)])), (aT, .inr (8, [.ref aTp, .ref aTt, .ref aTx, .ref aTy, .ref aE, .int (iI ld)])), (aE, .inr (2, [.int (iI ex), .int (iI ey), .int (iI ehx), .int (iI ehy)])), (aP, .inr (5, [.ref aPx, .ref aPy, .int (iI pn)])), (aPx, .inl (gI g, 200, .inl (ar bx))), (aPy, .inl (gI g, 200, .inl (ar byy))), (aF, .inr (2, [.int (iI fx), .int (iI fy), .int (iI fhx), .int (iI fhy)])), (aS, .inr (6, [.ref aQ, .ref aSt, .ref aSx, .ref aSy, .int (iI sr), .int (iI sl)])), (aQ, .inr (2, [.int (iI qx), .int (iI qy), .int (iI qhx), .int (iI qhy)])), (aSt, .inl (gI g, 4, .inl (ar st))), (aSx, .inl (gI g, 4, .inl (ar sx))), (aSy, .inl (gI g, 4, .inl (ar sy))), (aY, .inr (9, [.ref aYh, .ref aYt, .ref aYc])), (aYh, .inl (gI g, 3, .inl (ar ht))), (aYt, .inl (gI g, 36, .inl (ar yt))), (aTp, .inl (gI g, 200, .inl (ar tp))), (aO, .inl (gl.1, 1, .inr (.inl lo)))] sz)) (va_Qi (fun r u => r = iI ((fun (u : Int × Int × Int × Int × Int × Int × Int × Int × Int × Int × (Int → Int) × (Int → Int) × (Int → Int) × (Nat → Int64)) => ldT ht sta cnt) u) ∧ (fun (u : Int × Int × Int × Int × Int × Int × Int × Int × Int × Int × (Int → Int) × (Int → Int) × (Int → Int) × (Nat → Int64)) => (ldT ht sta cnt = 0 → u.2.2.2.2.2.2.2.2.2.2.2.2.2 0 = zL (leaN yt (fun x y => aI (x - plO pn bx (ld + cnt)) + aI (y - plO pn byy (ld + cnt))) cnt.toNat (sta * 12 + (ht sta - 1)) (lastP ld tp) ehx ehy (lastF ld kx) (lastF ld ky))) ∧ bnd u.2.2.2.2.2.2.2.2.2.2.1 0 9 ∧ bnd u.2.2.2.2.2.2.2.2.2.2.2.1 (-5) 5 ∧ bnd u.2.2.2.2.2.2.2.2.2.2.2.2.1 (-5) 5) u) (fun u t => xE g (va_A [(aR, .inr (10, [.ref aG, .ref aP, .ref aH, .ref aY, .ref aT, .ref aS, .ref aF, .ref aX, .int (iI pr), .int (iI tk), .int (iI tol), .int (iI hou)])), (aT, .inr (8, [.ref aTp, .ref aTt, .ref aTx, .ref aTy, .ref aE, .int (iI ld)])), (aE, .inr (2, [.int (iI ex), .int (iI ey), .int (iI ehx), .int (iI ehy)])), (aP, .inr (5, [.ref aPx, .ref aPy, .int (iI pn)])), (aPx, .inl (gI g, 200, .inl (ar bx))), (aPy, .inl (gI g, 200, .inl (ar byy))), (aF, .inr (2, [.int (iI fx), .int (iI fy), .int (iI fhx), .int (iI fhy)])), (aS, .inr (6, [.ref aQ, .ref aSt, .ref aSx, .ref aSy, .int (iI sr), .int (iI sl)])), (aQ, .inr (2, [.int (iI qx), .int (iI qy), .int (iI qhx), .int (iI qhy)])), (aSt, .inl (gI g, 4, .inl (ar st))), (aSx, .inl (gI g, 4, .inl (ar sx))), (aSy, .inl (gI g, 4, .inl (ar sy))), (aY, .inr (9, [.ref aYh, .ref aYt, .ref aYc])), (aYh, .inl (gI g, 3, .inl (ar ht))), (aYt, .inl (gI g, 36, .inl (ar yt))), (aTp, .inl (gI g, 200, .inl (ar tp))), (aO, .inl (gl.1, 1, .inr (.inl lo)))] sz) ((fun (u : Int × Int × Int × Int × Int × Int × Int × Int × Int × Int × (Int → Int) × (Int → Int) × (Int → Int) × (Nat → Int64)) => [(aR, .inr (10, [.ref aG, .ref aP, .ref aH, .ref aY, .ref aT, .ref aS, .ref aF, .ref aX, .int (iI pr), .int (iI tk), .int (iI tol), .int (iI hou)])), (aT, .inr (8, [.ref aTp, .ref aTt, .ref aTx, .ref aTy, .ref aE, .int (iI ld)])), (aE, .inr (2, [.int (iI ex), .int (iI ey), .int (iI ehx), .int (iI ehy)])), (aP, .inr (5, [.ref aPx, .ref aPy, .int (iI pn)])), (aPx, .inl (gI g, 200, .inl (ar bx))), (aPy, .inl (gI g, 200, .inl (ar byy))), (aF, .inr (2, [.int (iI u.1), .int (iI u.2.1), .int (iI u.2.2.1), .int (iI u.2.2.2.1)])), (aS, .inr (6, [.ref aQ, .ref aSt, .ref aSx, .ref aSy, .int (iI u.2.2.2.2.2.2.2.2.1), .int (iI u.2.2.2.2.2.2.2.2.2.1)])), (aQ, .inr (2, [.int (iI u.2.2.2.2.1), .int (iI u.2.2.2.2.2.1), .int (iI u.2.2.2.2.2.2.1), .int (iI u.2.2.2.2.2.2.2.1)])), (aSt, .inl (gI g, 4, .inl (ar u.2.2.2.2.2.2.2.2.2.2.1))), (aSx, .inl (gI g, 4, .inl (ar u.2.2.2.2.2.2.2.2.2.2.2.1))), (aSy, .inl (gI g, 4, .inl (ar u.2.2.2.2.2.2.2.2.2.2.2.2.1))), (aY, .inr (9, [.ref aYh, .ref aYt, .ref aYc])), (aYh, .inl (gI g, 3, .inl (ar ht))), (aYt, .inl (gI g, 36, .inl (ar yt))), (aTp, .inl (gI g, 200, .inl (ar tp))), (aO, .inl (gl.1, 1, .inr (.inl u.2.2.2.2.2.2.2.2.2.2.2.2.2)))]) u) t) (va_A [(aR, .inr (10, [.ref aG, .ref aP, .ref aH, .ref aY, .ref aT, .ref aS, .ref aF, .ref aX, .int (iI pr), .int (iI tk), .int (iI tol), .int (iI hou)])), (aT, .inr (8, [.ref aTp, .ref aTt, .ref aTx, .ref aTy, .ref aE, .int (iI ld)])), (aE, .inr (2, [.int (iI ex), .int (iI ey), .int (iI ehx), .int (iI ehy)])), (aP, .inr (5, [.ref aPx, .ref aPy, .int (iI pn)])), (aPx, .inl (gI g, 200, .inl (ar bx))), (aPy, .inl (gI g, 200, .inl (ar byy))), (aF, .inr (2, [.int (iI fx), .int (iI fy), .int (iI fhx), .int (iI fhy)])), (aS, .inr (6, [.ref aQ, .ref aSt, .ref aSx, .ref aSy, .int (iI sr), .int (iI sl)])), (aQ, .inr (2, [.int (iI qx), .int (iI qy), .int (iI qhx), .int (iI qhy)])), (aSt, .inl (gI g, 4, .inl (ar st))), (aSx, .inl (gI g, 4, .inl (ar sx))), (aSy, .inl (gI g, 4, .inl (ar sy))), (aY, .inr (9, [.ref aYh, .ref aYt, .ref aYc])), (aYh, .inl (gI g, 3, .inl (ar ht))), (aYt, .inl (gI g, 36, .inl (ar yt))), (aTp, .inl (gI g, 200, .inl (ar tp))), (aO, .inl (gl.1, 1, .inr (.inl lo)))] sz)) 3 18 (va_A [(aR, .inr (10, [.ref aG, .ref aP, .ref aH, .ref aY, .ref aT, .ref aS, .ref aF, .ref aX, .int (iI pr), .int (iI tk), .int (iI tol), .int (iI hou)])), (aT, .inr (8, [.ref aTp, .ref aTt, .ref aTx, .ref aTy, .ref aE, .int (iI ld)])), (aE, .inr (2, [.int (iI ex), .int (iI ey), .int (iI ehx), .int (iI ehy)])), (aP, .inr (5, [.ref aPx, .ref aPy, .int (iI pn)])), (aPx, .inl (gI g, 200, .inl (ar bx))), (aPy, .inl (gI g, 200, .inl (ar byy))), (aF, .inr (2, [.int (iI fx), .int (iI fy), .int (iI fhx), .int (iI fhy)])), (aS, .inr (6, [.ref aQ, .ref aSt, .ref aSx, .ref aSy, .int (iI sr), .int (iI sl)])), (aQ, .inr (2, [.int (iI qx), .int (iI qy), .int (iI qhx), .int (iI qhy)])), (aSt, .inl (gI g, 4, .inl (ar st))), (aSx, .inl (gI g, 4, .inl (ar sx))), (aSy, .inl (gI g, 4, .inl (ar sy))), (aY, .inr (9, [.ref aYh, .ref aYt, .ref aYc])), (aYh, .inl (gI g, 3, .inl (ar ht))), (aYt, .inl (gI g, 36, .inl (ar yt))), (aTp, .inl (gI g, 200, .inl (ar tp))), (aO, .inl (gl.1, 1, .inr (.inl lo)))] sz) := by
  refine x_enterH (y := yL_leastByTrying) (ws := wsL_leastByTrying) (g := g) (sz := sz) (av := [.ref aR, .int (iI sta), .int (iI cnt), .ref aO]) (WS := [(aR, .inr (10, [.ref aG, .ref aP, .ref aH, .ref aY, .ref aT, .ref aS, .ref aF, .ref aX, .int (iI pr), .int (iI tk), .int (iI tol), .int (iI hou)])), (aT, .inr (8, [.ref aTp, .ref aTt, .ref aTx, .ref aTy, .ref aE, .int (iI ld)])), (aE, .inr (2, [.int (iI ex), .int (iI ey), .int (iI ehx), .int (iI ehy)])), (aP, .inr (5, [.ref aPx, .ref aPy, .int (iI pn)])), (aPx, .inl (gI g, 200, .inl (ar bx))), (aPy, .inl (gI g, 200, .inl (ar byy))), (aF, .inr (2, [.int (iI fx), .int (iI fy), .int (iI fhx), .int (iI fhy)])), (aS, .inr (6, [.ref aQ, .ref aSt, .ref aSx, .ref aSy, .int (iI sr), .int (iI sl)])), (aQ, .inr (2, [.int (iI qx), .int (iI qy), .int (iI qhx), .int (iI qhy)])), (aSt, .inl (gI g, 4, .inl (ar st))), (aSx, .inl (gI g, 4, .inl (ar sx))), (aSy, .inl (gI g, 4, .inl (ar sy))), (aY, .inr (9, [.ref aYh, .ref aYt, .ref aYc])), (aYh, .inl (gI g, 3, .inl (ar ht))), (aYt, .inl (gI g, 36, .inl (ar yt))), (aTp, .inl (gI g, 200, .inl (ar tp))), (aO, .inl (gl.1, 1, .inr (.inl lo)))]) (cc := cL_leastByTrying) (maxL := 5) (ret := some .int) (Qc := (fun A => (va_Qi (fun r u => r = iI ((fun (u : Int × Int × Int × Int × Int × Int × Int × Int × Int × Int × (Int → Int) × (Int → Int) × (Int → Int) × (Nat → Int64)) => ldT ht sta cnt) u) ∧ (fun (u : Int × Int × Int × Int × Int × Int × Int × Int × Int × Int × (Int → Int) × (Int → Int) × (Int → Int) × (Nat → Int64)) => (ldT ht sta cnt = 0 → u.2.2.2.2.2.2.2.2.2.2.2.2.2 0 = zL (leaN yt (fun x y => aI (x - plO pn bx (ld + cnt)) + aI (y - plO pn byy (ld + cnt))) cnt.toNat (sta * 12 + (ht sta - 1)) (lastP ld tp) ehx ehy (lastF ld kx) (lastF ld ky))) ∧ bnd u.2.2.2.2.2.2.2.2.2.2.1 0 9 ∧ bnd u.2.2.2.2.2.2.2.2.2.2.2.1 (-5) 5 ∧ bnd u.2.2.2.2.2.2.2.2.2.2.2.2.1 (-5) 5) u) (fun u t => xE g A ((fun (u : Int × Int × Int × Int × Int × Int × Int × Int × Int × Int × (Int → Int) × (Int → Int) × (Int → Int) × (Nat → Int64)) => [(aR, .inr (10, [.ref aG, .ref aP, .ref aH, .ref aY, .ref aT, .ref aS, .ref aF, .ref aX, .int (iI pr), .int (iI tk), .int (iI tol), .int (iI hou)])), (aT, .inr (8, [.ref aTp, .ref aTt, .ref aTx, .ref aTy, .ref aE, .int (iI ld)])), (aE, .inr (2, [.int (iI ex), .int (iI ey), .int (iI ehx), .int (iI ehy)])), (aP, .inr (5, [.ref aPx, .ref aPy, .int (iI pn)])), (aPx, .inl (gI g, 200, .inl (ar bx))), (aPy, .inl (gI g, 200, .inl (ar byy))), (aF, .inr (2, [.int (iI u.1), .int (iI u.2.1), .int (iI u.2.2.1), .int (iI u.2.2.2.1)])), (aS, .inr (6, [.ref aQ, .ref aSt, .ref aSx, .ref aSy, .int (iI u.2.2.2.2.2.2.2.2.1), .int (iI u.2.2.2.2.2.2.2.2.2.1)])), (aQ, .inr (2, [.int (iI u.2.2.2.2.1), .int (iI u.2.2.2.2.2.1), .int (iI u.2.2.2.2.2.2.1), .int (iI u.2.2.2.2.2.2.2.1)])), (aSt, .inl (gI g, 4, .inl (ar u.2.2.2.2.2.2.2.2.2.2.1))), (aSx, .inl (gI g, 4, .inl (ar u.2.2.2.2.2.2.2.2.2.2.2.1))), (aSy, .inl (gI g, 4, .inl (ar u.2.2.2.2.2.2.2.2.2.2.2.2.1))), (aY, .inr (9, [.ref aYh, .ref aYt, .ref aYc])), (aYh, .inl (gI g, 3, .inl (ar ht))), (aYt, .inl (gI g, 36, .inl (ar yt))), (aTp, .inl (gI g, 200, .inl (ar tp))), (aO, .inl (gl.1, 1, .inr (.inl u.2.2.2.2.2.2.2.2.2.2.2.2.2)))]) u) t) A))) (by decide) rfl (Nat.le_of_ble_eq_true rfl) ?_
  intro p e s m args below meth c A ls hx hb hr hml hown hts hlocks htab hL hC hP hD hS hA hl
  have hK := hC.1
  have hown : s.vm.findClass RL = some m.cls := hown
  have hl : lv_has ls 5 [(0, .ref aR), (1, .int (iI sta)), (2, .int (iI cnt)), (3, .ref aO)] := hl
  obtain ⟨H, hH⟩ : ∃ z, z = s.heap := ⟨_, rfl⟩
  obtain ⟨locs, hlo⟩ : ∃ z : List Loc, z = [] := ⟨_, rfl⟩
  obtain ⟨Q9, hQ9⟩ : ∃ z, z = MQ below (va_Qi (fun r u => r = iI ((fun (u : Int × Int × Int × Int × Int × Int × Int × Int × Int × Int × (Int → Int) × (Int → Int) × (Int → Int) × (Nat → Int64)) => ldT ht sta cnt) u) ∧ (fun (u : Int × Int × Int × Int × Int × Int × Int × Int × Int × Int × (Int → Int) × (Int → Int) × (Int → Int) × (Nat → Int64)) => (ldT ht sta cnt = 0 → u.2.2.2.2.2.2.2.2.2.2.2.2.2 0 = zL (leaN yt (fun x y => aI (x - plO pn bx (ld + cnt)) + aI (y - plO pn byy (ld + cnt))) cnt.toNat (sta * 12 + (ht sta - 1)) (lastP ld tp) ehx ehy (lastF ld kx) (lastF ld ky))) ∧ bnd u.2.2.2.2.2.2.2.2.2.2.1 0 9 ∧ bnd u.2.2.2.2.2.2.2.2.2.2.2.1 (-5) 5 ∧ bnd u.2.2.2.2.2.2.2.2.2.2.2.2.1 (-5) 5) u) (fun u t => xE g A ((fun (u : Int × Int × Int × Int × Int × Int × Int × Int × Int × Int × (Int → Int) × (Int → Int) × (Int → Int) × (Nat → Int64)) => [(aR, .inr (10, [.ref aG, .ref aP, .ref aH, .ref aY, .ref aT, .ref aS, .ref aF, .ref aX, .int (iI pr), .int (iI tk), .int (iI tol), .int (iI hou)])), (aT, .inr (8, [.ref aTp, .ref aTt, .ref aTx, .ref aTy, .ref aE, .int (iI ld)])), (aE, .inr (2, [.int (iI ex), .int (iI ey), .int (iI ehx), .int (iI ehy)])), (aP, .inr (5, [.ref aPx, .ref aPy, .int (iI pn)])), (aPx, .inl (gI g, 200, .inl (ar bx))), (aPy, .inl (gI g, 200, .inl (ar byy))), (aF, .inr (2, [.int (iI u.1), .int (iI u.2.1), .int (iI u.2.2.1), .int (iI u.2.2.2.1)])), (aS, .inr (6, [.ref aQ, .ref aSt, .ref aSx, .ref aSy, .int (iI u.2.2.2.2.2.2.2.2.1), .int (iI u.2.2.2.2.2.2.2.2.2.1)])), (aQ, .inr (2, [.int (iI u.2.2.2.2.1), .int (iI u.2.2.2.2.2.1), .int (iI u.2.2.2.2.2.2.1), .int (iI u.2.2.2.2.2.2.2.1)])), (aSt, .inl (gI g, 4, .inl (ar u.2.2.2.2.2.2.2.2.2.2.1))), (aSx, .inl (gI g, 4, .inl (ar u.2.2.2.2.2.2.2.2.2.2.2.1))), (aSy, .inl (gI g, 4, .inl (ar u.2.2.2.2.2.2.2.2.2.2.2.2.1))), (aY, .inr (9, [.ref aYh, .ref aYt, .ref aYc])), (aYh, .inl (gI g, 3, .inl (ar ht))), (aYt, .inl (gI g, 36, .inl (ar yt))), (aTp, .inl (gI g, 200, .inl (ar tp))), (aO, .inl (gl.1, 1, .inr (.inl u.2.2.2.2.2.2.2.2.2.2.2.2.2)))]) u) t) A) args s 3 18 A := ⟨_, rfl⟩
  have hP : va_P (gD g) vwCl [(aR, .inr (10, [.ref aG, .ref aP, .ref aH, .ref aY, .ref aT, .ref aS, .ref aF, .ref aX, .int (iI pr), .int (iI tk), .int (iI tol), .int (iI hou)])), (aT, .inr (8, [.ref aTp, .ref aTt, .ref aTx, .ref aTy, .ref aE, .int (iI ld)])), (aE, .inr (2, [.int (iI ex), .int (iI ey), .int (iI ehx), .int (iI ehy)])), (aP, .inr (5, [.ref aPx, .ref aPy, .int (iI pn)])), (aPx, .inl (gI g, 200, .inl (ar bx))), (aPy, .inl (gI g, 200, .inl (ar byy))), (aF, .inr (2, [.int (iI fx), .int (iI fy), .int (iI fhx), .int (iI fhy)])), (aS, .inr (6, [.ref aQ, .ref aSt, .ref aSx, .ref aSy, .int (iI sr), .int (iI sl)])), (aQ, .inr (2, [.int (iI qx), .int (iI qy), .int (iI qhx), .int (iI qhy)])), (aSt, .inl (gI g, 4, .inl (ar st))), (aSx, .inl (gI g, 4, .inl (ar sx))), (aSy, .inl (gI g, 4, .inl (ar sy))), (aY, .inr (9, [.ref aYh, .ref aYt, .ref aYc])), (aYh, .inl (gI g, 3, .inl (ar ht))), (aYt, .inl (gI g, 36, .inl (ar yt))), (aTp, .inl (gI g, 200, .inl (ar tp))), (aO, .inl (gl.1, 1, .inr (.inl lo)))] H := by rw [hH]; exact hP
  have hS : va_S A s.heap H locs := by rw [hH, hlo]; exact hS
  have goal_ : W p l e { frames := 9, cells := 3, slots := 18, locals := 199 } s m args below meth c H locs 0 0 Q9 (F0 m 0 ls []) := by
    clear hH hlo
    refine lv_aload_n hx hb dL_leastByTrying_0 rfl (lv_at hl 3 rfl) ?_
    refine x_iconst hx hb dL_leastByTrying_1 ?_
    refine lv_aload_n hx hb dL_leastByTrying_2 rfl (lv_at hl 0 rfl) ?_
    refine lv_iload_n hx hb dL_leastByTrying_3 rfl (lv_at hl 1 rfl) ?_
    refine lv_iload_n hx hb dL_leastByTrying_4 rfl (lv_at hl 2 rfl) ?_
    refine x_calliX (S := Int × Int × Int × Int × Int × Int × Int × Int × Int × Int × (Int → Int) × (Int → Int) × (Int → Int)) (SX := Unit) (wc := [(aR, .inr (10, [.ref aG, .ref aP, .ref aH, .ref aY, .ref aT, .ref aS, .ref aF, .ref aX, .int (iI pr), .int (iI tk), .int (iI tol), .int (iI hou)])), (aT, .inr (8, [.ref aTp, .ref aTt, .ref aTx, .ref aTy, .ref aE, .int (iI ld)])), (aE, .inr (2, [.int (iI ex), .int (iI ey), .int (iI ehx), .int (iI ehy)])), (aP, .inr (5, [.ref aPx, .ref aPy, .int (iI pn)])), (aPx, .inl (gI g, 200, .inl (ar bx))), (aPy, .inl (gI g, 200, .inl (ar byy))), (aF, .inr (2, [.int (iI fx), .int (iI fy), .int (iI fhx), .int (iI fhy)])), (aS, .inr (6, [.ref aQ, .ref aSt, .ref aSx, .ref aSy, .int (iI sr), .int (iI sl)])), (aQ, .inr (2, [.int (iI qx), .int (iI qy), .int (iI qhx), .int (iI qhy)])), (aSt, .inl (gI g, 4, .inl (ar st))), (aSx, .inl (gI g, 4, .inl (ar sx))), (aSy, .inl (gI g, 4, .inl (ar sy))), (aY, .inr (9, [.ref aYh, .ref aYt, .ref aYc])), (aYh, .inl (gI g, 3, .inl (ar ht))), (aYt, .inl (gI g, 36, .inl (ar yt))), (aTp, .inl (gI g, 200, .inl (ar tp)))]) (wr := [(aO, .inl (gl.1, 1, .inr (.inl lo)))]) hC hP hD hS hA [0, 1, 2, 3, 4, 5, 6, 7, 8, 9, 10, 11, 12, 13, 14, 15] [16] [1, 2, 3, 4, 5, 6, 7, 8, 9, 10, 11, 12, 13, 14, 15, 16, 0] rfl rfl (fun hpre => vx_runV (As := [.int (iI sta), .int (iI cnt)]) (rest := [.int (iI 0), .ref aO]) ⟨hx, hb, hml, hown, hts⟩ (c_X8_leastByTrying l hflags g H.size aR aG aP aH aY aT aS aF aX aTp aTt aTx aTy aE aPx aPy aQ aSt aSx aSy aYh aYt aYc pr tk tol hou ld ex ey ehx ehy pn fx fy fhx fhy sr sl qx qy qhx qhy sta cnt bx byy st sx sy ht yt tp kx ky (by first | (first | assumption | omega | exact bnd_up (by assumption) (by omega) (by omega)) | fail "q8") (by first | (first | assumption | omega | exact bnd_up (by assumption) (by omega) (by omega)) | fail "q8") (by first | (first | assumption | omega | exact bnd_up (by assumption) (by omega) (by omega)) | fail "q8") (by first | (first | assumption | omega | exact bnd_up (by assumption) (by omega) (by omega)) | fail "q8") (by first | (first | assumption | omega | exact bnd_up (by assumption) (by omega) (by omega)) | fail "q8") (by first | (first | assumption | omega | exact bnd_up (by assumption) (by omega) (by omega)) | fail "q8") (by first | (first | assumption | omega | exact bnd_up (by assumption) (by omega) (by omega)) | fail "q8") (by first | (first | assumption | omega | exact bnd_up (by assumption) (by omega) (by omega)) | fail "q8") (by first | (first | assumption | omega | exact bnd_up (by assumption) (by omega) (by omega)) | fail "q8") (by first | (first | assumption | omega | exact bnd_up (by assumption) (by omega) (by omega)) | fail "q8") (by first | (first | assumption | omega | exact bnd_up (by assumption) (by omega) (by omega)) | fail "q8") (by first | (first | assumption | omega | exact bnd_up (by assumption) (by omega) (by omega)) | fail "q8") (by first | (first | assumption | omega | exact bnd_up (by assumption) (by omega) (by omega)) | fail "q8") (by first | (first | assumption | omega | exact bnd_up (by assumption) (by omega) (by omega)) | fail "q8") (by first | (first | assumption | omega | exact bnd_up (by assumption) (by omega) (by omega)) | fail "q8") (by first | (first | assumption | omega | exact bnd_up (by assumption) (by omega) (by omega)) | fail "q8") (by first | (first | assumption | omega | exact bnd_up (by assumption) (by omega) (by omega)) | fail "q8") (by first | (first | assumption | omega | exact bnd_up (by assumption) (by omega) (by omega)) | fail "q8")) (cwV 2 hts gL_leastByTrying_X8_leastByTrying rfl rfl rfl (by decide +kernel) ⟨Nat.le_of_ble_eq_true rfl, Nat.le_of_ble_eq_true rfl⟩) ⟨xB_blind, va_recv hK hP (ci := 10) (q0 := 0) rfl rfl, hpre _⟩ rfl rfl hl.1 rfl (lv_room (Nat.le_of_ble_eq_true rfl)) dL_leastByTrying_5 ⟨Nat.le_of_ble_eq_true rfl, Nat.le_of_ble_eq_true rfl⟩) (fun (u : Int × Int × Int × Int × Int × Int × Int × Int × Int × Int × (Int → Int) × (Int → Int) × (Int → Int)) => [(aR, .inr (10, [.ref aG, .ref aP, .ref aH, .ref aY, .ref aT, .ref aS, .ref aF, .ref aX, .int (iI pr), .int (iI tk), .int (iI tol), .int (iI hou)])), (aT, .inr (8, [.ref aTp, .ref aTt, .ref aTx, .ref aTy, .ref aE, .int (iI ld)])), (aE, .inr (2, [.int (iI ex), .int (iI ey), .int (iI ehx), .int (iI ehy)])), (aP, .inr (5, [.ref aPx, .ref aPy, .int (iI pn)])), (aPx, .inl (gI g, 200, .inl (ar bx))), (aPy, .inl (gI g, 200, .inl (ar byy))), (aF, .inr (2, [.int (iI u.1), .int (iI u.2.1), .int (iI u.2.2.1), .int (iI u.2.2.2.1)])), (aS, .inr (6, [.ref aQ, .ref aSt, .ref aSx, .ref aSy, .int (iI u.2.2.2.2.2.2.2.2.1), .int (iI u.2.2.2.2.2.2.2.2.2.1)])), (aQ, .inr (2, [.int (iI u.2.2.2.2.1), .int (iI u.2.2.2.2.2.1), .int (iI u.2.2.2.2.2.2.1), .int (iI u.2.2.2.2.2.2.2.1)])), (aSt, .inl (gI g, 4, .inl (ar u.2.2.2.2.2.2.2.2.2.2.1))), (aSx, .inl (gI g, 4, .inl (ar u.2.2.2.2.2.2.2.2.2.2.2.1))), (aSy, .inl (gI g, 4, .inl (ar u.2.2.2.2.2.2.2.2.2.2.2.2))), (aY, .inr (9, [.ref aYh, .ref aYt, .ref aYc])), (aYh, .inl (gI g, 3, .inl (ar ht))), (aYt, .inl (gI g, 36, .inl (ar yt))), (aTp, .inl (gI g, 200, .inl (ar tp))), (aO, .inl (gl.1, 1, .inr (.inl lo)))]) (fun (u : Unit) => ([(aR, .inr (10, [.ref aG, .ref aP, .ref aH, .ref aY, .ref aT, .ref aS, .ref aF, .ref aX, .int (iI pr), .int (iI tk), .int (iI tol), .int (iI hou)])), (aT, .inr (8, [.ref aTp, .ref aTt, .ref aTx, .ref aTy, .ref aE, .int (iI ld)])), (aE, .inr (2, [.int (iI ex), .int (iI ey), .int (iI ehx), .int (iI ehy)])), (aP, .inr (5, [.ref aPx, .ref aPy, .int (iI pn)])), (aPx, .inl (gI g, 200, .inl (ar bx))), (aPy, .inl (gI g, 200, .inl (ar byy))), (aF, .inr (2, [.int (iI fx), .int (iI fy), .int (iI fhx), .int (iI fhy)])), (aS, .inr (6, [.ref aQ, .ref aSt, .ref aSx, .ref aSy, .int (iI sr), .int (iI sl)])), (aQ, .inr (2, [.int (iI qx), .int (iI qy), .int (iI qhx), .int (iI qhy)])), (aSt, .inl (gI g, 4, .inl (ar st))), (aSx, .inl (gI g, 4, .inl (ar sx))), (aSy, .inl (gI g, 4, .inl (ar sy))), (aY, .inr (9, [.ref aYh, .ref aYt, .ref aYc])), (aYh, .inl (gI g, 3, .inl (ar ht))), (aYt, .inl (gI g, 36, .inl (ar yt))), (aTp, .inl (gI g, 200, .inl (ar tp))), (aO, .inl (gl.1, 1, .inr (.inl lo)))] : va_W)) rfl rfl (by decide) (fun _ => rfl) (fun _ => rfl) rfl (fun E ce q9 u H locs hXP hPX hP hD hS hcell hv9 hcl => ?_) (fun u v_14 H locs hv_14 pv_14 hP hD hS => ?_)
    · skip
      have hP : va_P (gD g) vwCl [(aR, .inr (10, [.ref aG, .ref aP, .ref aH, .ref aY, .ref aT, .ref aS, .ref aF, .ref aX, .int (iI pr), .int (iI tk), .int (iI tol), .int (iI hou)])), (aT, .inr (8, [.ref aTp, .ref aTt, .ref aTx, .ref aTy, .ref aE, .int (iI ld)])), (aE, .inr (2, [.int (iI ex), .int (iI ey), .int (iI ehx), .int (iI ehy)])), (aP, .inr (5, [.ref aPx, .ref aPy, .int (iI pn)])), (aPx, .inl (gI g, 200, .inl (ar bx))), (aPy, .inl (gI g, 200, .inl (ar byy))), (aF, .inr (2, [.int (iI fx), .int (iI fy), .int (iI fhx), .int (iI fhy)])), (aS, .inr (6, [.ref aQ, .ref aSt, .ref aSx, .ref aSy, .int (iI sr), .int (iI sl)])), (aQ, .inr (2, [.int (iI qx), .int (iI qy), .int (iI qhx), .int (iI qhy)])), (aSt, .inl (gI g, 4, .inl (ar st))), (aSx, .inl (gI g, 4, .inl (ar sx))), (aSy, .inl (gI g, 4, .inl (ar sy))), (aY, .inr (9, [.ref aYh, .ref aYt, .ref aYc])), (aYh, .inl (gI g, 3, .inl (ar ht))), (aYt, .inl (gI g, 36, .inl (ar yt))), (aTp, .inl (gI g, 200, .inl (ar tp))), (aO, .inl (gl.1, 1, .inr (.inl lo)))] H := hP
      have hD : va_D A [(aR, .inr (10, [.ref aG, .ref aP, .ref aH, .ref aY, .ref aT, .ref aS, .ref aF, .ref aX, .int (iI pr), .int (iI tk), .int (iI tol), .int (iI hou)])), (aT, .inr (8, [.ref aTp, .ref aTt, .ref aTx, .ref aTy, .ref aE, .int (iI ld)])), (aE, .inr (2, [.int (iI ex), .int (iI ey), .int (iI ehx), .int (iI ehy)])), (aP, .inr (5, [.ref aPx, .ref aPy, .int (iI pn)])), (aPx, .inl (gI g, 200, .inl (ar bx))), (aPy, .inl (gI g, 200, .inl (ar byy))), (aF, .inr (2, [.int (iI fx), .int (iI fy), .int (iI fhx), .int (iI fhy)])), (aS, .inr (6, [.ref aQ, .ref aSt, .ref aSx, .ref aSy, .int (iI sr), .int (iI sl)])), (aQ, .inr (2, [.int (iI qx), .int (iI qy), .int (iI qhx), .int (iI qhy)])), (aSt, .inl (gI g, 4, .inl (ar st))), (aSx, .inl (gI g, 4, .inl (ar sx))), (aSy, .inl (gI g, 4, .inl (ar sy))), (aY, .inr (9, [.ref aYh, .ref aYt, .ref aYc])), (aYh, .inl (gI g, 3, .inl (ar ht))), (aYt, .inl (gI g, 36, .inl (ar yt))), (aTp, .inl (gI g, 200, .inl (ar tp))), (aO, .inl (gl.1, 1, .inr (.inl lo)))] := hD
      rcases hPX with ⟨hE, hp⟩ | ⟨hE, hp⟩ | ⟨hE, hp⟩
      · skip
        have hp : ldT ht sta cnt = 1 := hp
        subst hE
        refine vx_catch (E := "java/lang/IndexOutOfBoundsException") (name := "java/lang/IndexOutOfBoundsException") hown [] ⟨0, 10, 13, 24⟩ [⟨0, 10, 17, 13⟩, ⟨0, 10, 21, 43⟩] (by rw [htab]; rfl) (fun z hz => by cases hz) (by decide) (by decide) (hts (.classLink RL 24 "java/lang/IndexOutOfBoundsException") (List.mem_of_getElem? (i := 1) rfl)) (va_Nw.use rfl (hC.2.2.2.2.2.2.2.2.2.2.1 "java/lang/IndexOutOfBoundsException" (List.mem_of_getElem? (i := 2) rfl))) hcell hv9 hcl ?_
        refine lv_astore (lv' := [(4, .ref q9), (0, .ref aR), (1, .int (iI sta)), (2, .int (iI cnt)), (3, .ref aO)]) hx hb dL_leastByTrying_13 hl (by decide) rfl (fun ls hl => ?_)
        refine x_iconst hx hb dL_leastByTrying_15 ?_
        rw [hQ9]
        exact x_iret hx hb hr hlocks hP hD hS (S := Int × Int × Int × Int × Int × Int × Int × Int × Int × Int × (Int → Int) × (Int → Int) × (Int → Int) × (Nat → Int64)) rfl dL_leastByTrying_16 ⟨fx, fy, fhx, fhy, qx, qy, qhx, qhy, sr, sl, st, sx, sy, lo⟩ (by
            first
            | (
               first | omega | (subst_vars; omega))
            | fail "q9") (by
            first
            | (
               refine ⟨fun h0 => ?_, ?_⟩
               · first | (exfalso; omega) | ((try dsimp only); rw [zl_up]; subst_vars; rfl) | ((try dsimp only); rw [zl_up]; congr 1)
               · first | exact hjk | exact hjk.2 | exact hXP | exact ⟨hb_st, hb_sx, hb_sy⟩)
            | fail "q9") rfl (Nat.le_of_ble_eq_true rfl) (Nat.le_of_ble_eq_true rfl)
      · skip
        have hp : ldT ht sta cnt = 2 := hp
        subst hE
        refine vx_catch (E := "java/lang/IllegalArgumentException") (name := "java/lang/IllegalArgumentException") hown [⟨0, 10, 13, 24⟩] ⟨0, 10, 17, 13⟩ [⟨0, 10, 21, 43⟩] (by rw [htab]; rfl) (fun z hz => by rcases List.mem_cons.mp hz with rfl | hz; exact Or.inr ⟨by decide, "java/lang/IndexOutOfBoundsException", (hts (.classLink RL 24 "java/lang/IndexOutOfBoundsException") (List.mem_of_getElem? (i := 1) rfl)), hL.2 ("java/lang/IllegalArgumentException", "java/lang/IndexOutOfBoundsException") (List.mem_of_getElem? (i := 1) (by decide +kernel))⟩; cases hz) (by decide) (by decide) (hts (.classLink RL 13 "java/lang/IllegalArgumentException") (List.mem_of_getElem? (i := 2) rfl)) (va_Nw.use rfl (hC.2.2.2.2.2.2.2.2.2.2.1 "java/lang/IllegalArgumentException" (List.mem_of_getElem? (i := 0) rfl))) hcell hv9 hcl ?_
        refine lv_astore (lv' := [(4, .ref q9), (0, .ref aR), (1, .int (iI sta)), (2, .int (iI cnt)), (3, .ref aO)]) hx hb dL_leastByTrying_17 hl (by decide) rfl (fun ls hl => ?_)
        refine x_iconst hx hb dL_leastByTrying_19 ?_
        rw [hQ9]
        exact x_iret hx hb hr hlocks hP hD hS (S := Int × Int × Int × Int × Int × Int × Int × Int × Int × Int × (Int → Int) × (Int → Int) × (Int → Int) × (Nat → Int64)) rfl dL_leastByTrying_20 ⟨fx, fy, fhx, fhy, qx, qy, qhx, qhy, sr, sl, st, sx, sy, lo⟩ (by
            first
            | (
               first | omega | (subst_vars; omega))
            | fail "q9") (by
            first
            | (
               refine ⟨fun h0 => ?_, ?_⟩
               · first | (exfalso; omega) | ((try dsimp only); rw [zl_up]; subst_vars; rfl) | ((try dsimp only); rw [zl_up]; congr 1)
               · first | exact hjk | exact hjk.2 | exact hXP | exact ⟨hb_st, hb_sx, hb_sy⟩)
            | fail "q9") rfl (Nat.le_of_ble_eq_true rfl) (Nat.le_of_ble_eq_true rfl)
      · skip
        have hp : ldT ht sta cnt = 3 := hp
        subst hE
        refine vx_catch (E := "java/util/NoSuchElementException") (name := "java/util/NoSuchElementException") hown [⟨0, 10, 13, 24⟩, ⟨0, 10, 17, 13⟩] ⟨0, 10, 21, 43⟩ [] (by rw [htab]; rfl) (fun z hz => by rcases List.mem_cons.mp hz with rfl | hz; exact Or.inr ⟨by decide, "java/lang/IndexOutOfBoundsException", (hts (.classLink RL 24 "java/lang/IndexOutOfBoundsException") (List.mem_of_getElem? (i := 1) rfl)), hL.2 ("java/util/NoSuchElementException", "java/lang/IndexOutOfBoundsException") (List.mem_of_getElem? (i := 17) (by decide +kernel))⟩; rcases List.mem_cons.mp hz with rfl | hz; exact Or.inr ⟨by decide, "java/lang/IllegalArgumentException", (hts (.classLink RL 13 "java/lang/IllegalArgumentException") (List.mem_of_getElem? (i := 2) rfl)), hL.2 ("java/util/NoSuchElementException", "java/lang/IllegalArgumentException") (List.mem_of_getElem? (i := 15) (by decide +kernel))⟩; cases hz) (by decide) (by decide) (hts (.classLink RL 43 "java/util/NoSuchElementException") (List.mem_of_getElem? (i := 3) rfl)) (va_Nw.use rfl (hC.2.2.2.2.2.2.2.2.2.2.1 "java/util/NoSuchElementException" (List.mem_of_getElem? (i := 3) rfl))) hcell hv9 hcl ?_
        refine lv_astore (lv' := [(4, .ref q9), (0, .ref aR), (1, .int (iI sta)), (2, .int (iI cnt)), (3, .ref aO)]) hx hb dL_leastByTrying_21 hl (by decide) rfl (fun ls hl => ?_)
        refine x_iconst hx hb dL_leastByTrying_23 ?_
        rw [hQ9]
        exact x_iret hx hb hr hlocks hP hD hS (S := Int × Int × Int × Int × Int × Int × Int × Int × Int × Int × (Int → Int) × (Int → Int) × (Int → Int) × (Nat → Int64)) rfl dL_leastByTrying_24 ⟨fx, fy, fhx, fhy, qx, qy, qhx, qhy, sr, sl, st, sx, sy, lo⟩ (by
            first
            | (
               first | omega | (subst_vars; omega))
            | fail "q9") (by
            first
            | (
               refine ⟨fun h0 => ?_, ?_⟩
               · first | (exfalso; omega) | ((try dsimp only); rw [zl_up]; subst_vars; rfl) | ((try dsimp only); rw [zl_up]; congr 1)
               · first | exact hjk | exact hjk.2 | exact hXP | exact ⟨hb_st, hb_sx, hb_sy⟩)
            | fail "q9") rfl (Nat.le_of_ble_eq_true rfl) (Nat.le_of_ble_eq_true rfl)
    · skip
      obtain ⟨fx_o_1, fy_o_2, fhx_o_3, fhy_o_4, qx_o_5, qy_o_6, qhx_o_7, qhy_o_8, sr_o_9, sl_o_10, st_o_11, sx_o_12, sy_o_13⟩ := u
      have hP : va_P (gD g) vwCl [(aR, .inr (10, [.ref aG, .ref aP, .ref aH, .ref aY, .ref aT, .ref aS, .ref aF, .ref aX, .int (iI pr), .int (iI tk), .int (iI tol), .int (iI hou)])), (aT, .inr (8, [.ref aTp, .ref aTt, .ref aTx, .ref aTy, .ref aE, .int (iI ld)])), (aE, .inr (2, [.int (iI ex), .int (iI ey), .int (iI ehx), .int (iI ehy)])), (aP, .inr (5, [.ref aPx, .ref aPy, .int (iI pn)])), (aPx, .inl (gI g, 200, .inl (ar bx))), (aPy, .inl (gI g, 200, .inl (ar byy))), (aF, .inr (2, [.int (iI fx_o_1), .int (iI fy_o_2), .int (iI fhx_o_3), .int (iI fhy_o_4)])), (aS, .inr (6, [.ref aQ, .ref aSt, .ref aSx, .ref aSy, .int (iI sr_o_9), .int (iI sl_o_10)])), (aQ, .inr (2, [.int (iI qx_o_5), .int (iI qy_o_6), .int (iI qhx_o_7), .int (iI qhy_o_8)])), (aSt, .inl (gI g, 4, .inl (ar st_o_11))), (aSx, .inl (gI g, 4, .inl (ar sx_o_12))), (aSy, .inl (gI g, 4, .inl (ar sy_o_13))), (aY, .inr (9, [.ref aYh, .ref aYt, .ref aYc])), (aYh, .inl (gI g, 3, .inl (ar ht))), (aYt, .inl (gI g, 36, .inl (ar yt))), (aTp, .inl (gI g, 200, .inl (ar tp))), (aO, .inl (gl.1, 1, .inr (.inl lo)))] H := hP
      have hD : va_D A [(aR, .inr (10, [.ref aG, .ref aP, .ref aH, .ref aY, .ref aT, .ref aS, .ref aF, .ref aX, .int (iI pr), .int (iI tk), .int (iI tol), .int (iI hou)])), (aT, .inr (8, [.ref aTp, .ref aTt, .ref aTx, .ref aTy, .ref aE, .int (iI ld)])), (aE, .inr (2, [.int (iI ex), .int (iI ey), .int (iI ehx), .int (iI ehy)])), (aP, .inr (5, [.ref aPx, .ref aPy, .int (iI pn)])), (aPx, .inl (gI g, 200, .inl (ar bx))), (aPy, .inl (gI g, 200, .inl (ar byy))), (aF, .inr (2, [.int (iI fx_o_1), .int (iI fy_o_2), .int (iI fhx_o_3), .int (iI fhy_o_4)])), (aS, .inr (6, [.ref aQ, .ref aSt, .ref aSx, .ref aSy, .int (iI sr_o_9), .int (iI sl_o_10)])), (aQ, .inr (2, [.int (iI qx_o_5), .int (iI qy_o_6), .int (iI qhx_o_7), .int (iI qhy_o_8)])), (aSt, .inl (gI g, 4, .inl (ar st_o_11))), (aSx, .inl (gI g, 4, .inl (ar sx_o_12))), (aSy, .inl (gI g, 4, .inl (ar sy_o_13))), (aY, .inr (9, [.ref aYh, .ref aYt, .ref aYc])), (aYh, .inl (gI g, 3, .inl (ar ht))), (aYt, .inl (gI g, 36, .inl (ar yt))), (aTp, .inl (gI g, 200, .inl (ar tp))), (aO, .inl (gl.1, 1, .inr (.inl lo)))] := hD
      have hv_14 : v_14 = leaN yt (fun x y => aI (x - plO pn bx (ld + cnt)) + aI (y - plO pn byy (ld + cnt))) cnt.toNat (sta * 12 + (ht sta - 1)) (lastP ld tp) ehx ehy (lastF ld kx) (lastF ld ky) := hv_14
      obtain ⟨tv_14, pv_14⟩ := pv_14
      have tv_14 : ldT ht sta cnt = 0 := tv_14
      have pv_14 : bnd st_o_11 0 9 ∧ bnd sx_o_12 (-5) 5 ∧ bnd sy_o_13 (-5) 5 := by first | exact pv_14 | (rw [hv_14]; exact pv_14)
      have hjk := pv_14
      refine x_i2z hx hb dL_leastByTrying_8 ?_
      refine va_last hx hb hL.1 hP hD hS 16 0 rfl rfl zl_in dL_leastByTrying_9 (fun H locs hP hD hS => ?_)
      have hP : va_P (gD g) vwCl [(aR, .inr (10, [.ref aG, .ref aP, .ref aH, .ref aY, .ref aT, .ref aS, .ref aF, .ref aX, .int (iI pr), .int (iI tk), .int (iI tol), .int (iI hou)])), (aT, .inr (8, [.ref aTp, .ref aTt, .ref aTx, .ref aTy, .ref aE, .int (iI ld)])), (aE, .inr (2, [.int (iI ex), .int (iI ey), .int (iI ehx), .int (iI ehy)])), (aP, .inr (5, [.ref aPx, .ref aPy, .int (iI pn)])), (aPx, .inl (gI g, 200, .inl (ar bx))), (aPy, .inl (gI g, 200, .inl (ar byy))), (aF, .inr (2, [.int (iI fx_o_1), .int (iI fy_o_2), .int (iI fhx_o_3), .int (iI fhy_o_4)])), (aS, .inr (6, [.ref aQ, .ref aSt, .ref aSx, .ref aSy, .int (iI sr_o_9), .int (iI sl_o_10)])), (aQ, .inr (2, [.int (iI qx_o_5), .int (iI qy_o_6), .int (iI qhx_o_7), .int (iI qhy_o_8)])), (aSt, .inl (gI g, 4, .inl (ar st_o_11))), (aSx, .inl (gI g, 4, .inl (ar sx_o_12))), (aSy, .inl (gI g, 4, .inl (ar sy_o_13))), (aY, .inr (9, [.ref aYh, .ref aYt, .ref aYc])), (aYh, .inl (gI g, 3, .inl (ar ht))), (aYt, .inl (gI g, 36, .inl (ar yt))), (aTp, .inl (gI g, 200, .inl (ar tp))), (aO, .inl (gl.1, 1, .inr (.inl (vp_updL lo (iI 0).toNatClampNeg (zL v_14)))))] H := hP
      have hD : va_D A [(aR, .inr (10, [.ref aG, .ref aP, .ref aH, .ref aY, .ref aT, .ref aS, .ref aF, .ref aX, .int (iI pr), .int (iI tk), .int (iI tol), .int (iI hou)])), (aT, .inr (8, [.ref aTp, .ref aTt, .ref aTx, .ref aTy, .ref aE, .int (iI ld)])), (aE, .inr (2, [.int (iI ex), .int (iI ey), .int (iI ehx), .int (iI ehy)])), (aP, .inr (5, [.ref aPx, .ref aPy, .int (iI pn)])), (aPx, .inl (gI g, 200, .inl (ar bx))), (aPy, .inl (gI g, 200, .inl (ar byy))), (aF, .inr (2, [.int (iI fx_o_1), .int (iI fy_o_2), .int (iI fhx_o_3), .int (iI fhy_o_4)])), (aS, .inr (6, [.ref aQ, .ref aSt, .ref aSx, .ref aSy, .int (iI sr_o_9), .int (iI sl_o_10)])), (aQ, .inr (2, [.int (iI qx_o_5), .int (iI qy_o_6), .int (iI qhx_o_7), .int (iI qhy_o_8)])), (aSt, .inl (gI g, 4, .inl (ar st_o_11))), (aSx, .inl (gI g, 4, .inl (ar sx_o_12))), (aSy, .inl (gI g, 4, .inl (ar sy_o_13))), (aY, .inr (9, [.ref aYh, .ref aYt, .ref aYc])), (aYh, .inl (gI g, 3, .inl (ar ht))), (aYt, .inl (gI g, 36, .inl (ar yt))), (aTp, .inl (gI g, 200, .inl (ar tp))), (aO, .inl (gl.1, 1, .inr (.inl (vp_updL lo (iI 0).toNatClampNeg (zL v_14)))))] := hD
      refine lv_goto (tgt := 25) hx hb dL_leastByTrying_10 (by decide) ?_
      refine x_iconst hx hb dL_leastByTrying_25 ?_
      rw [hQ9]
      exact x_iret hx hb hr hlocks hP hD hS (S := Int × Int × Int × Int × Int × Int × Int × Int × Int × Int × (Int → Int) × (Int → Int) × (Int → Int) × (Nat → Int64)) rfl dL_leastByTrying_26 ⟨fx_o_1, fy_o_2, fhx_o_3, fhy_o_4, qx_o_5, qy_o_6, qhx_o_7, qhy_o_8, sr_o_9, sl_o_10, st_o_11, sx_o_12, sy_o_13, (vp_updL lo (iI 0).toNatClampNeg (zL v_14))⟩ (by
          first
          | (
             first | omega | (subst_vars; omega))
          | fail "q9") (by
          first
          | (
             refine ⟨fun h0 => ?_, ?_⟩
             · first | (exfalso; omega) | ((try dsimp only); rw [zl_up]; subst_vars; rfl) | ((try dsimp only); rw [zl_up]; congr 1)
             · first | exact hjk | exact hjk.2 | exact hXP | exact ⟨hb_st, hb_sx, hb_sy⟩)
          | fail "q9") rfl (Nat.le_of_ble_eq_true rfl) (Nat.le_of_ble_eq_true rfl)
  rw [hH, hlo, hQ9] at goal_
  exact goal_

set_option maxHeartbeats 4000000 in
set_option maxRecDepth 100000 in
theorem c_L_sinkingAt (l : Launch) (hflags : l.stackTraces = false) (g : xg) (gl : ClassId × ClassId) (sz : Nat) (aR aG aP aH aY aT aS aF aX aGn aGw aGs aO : Nat) (pr tk tol hou kn rg : Int) (sk : Int → Int) (lo : Nat → Int64) (hkn : 0 ≤ kn ∧ kn ≤ 200) (hb_sk : bnd sk 0 500000) (hr_rg : iR rg) : Met l yL_sinkingAt wsL_sinkingAt { frames := 8, cells := 1, slots := 6, locals := 134 } (va_Pc [.ref aR, .int (iI rg), .ref aO] (xBL g gl [(aR, .inr (10, [.ref aG, .ref aP, .ref aH, .ref aY, .ref aT, .ref aS, .ref aF, .ref aX, .int (iI pr), .int (iI tk), .int (iI tol), .int (iI hou)])), (aG, .inr (3, [.ref aGn, .ref aGw, .ref aGs, .int (iI kn)])), (aGs, .inl (gI g, 200, .inl (ar sk))), (aO, .inl (gl.1, 1, .inr (.inl lo)))] sz)) (va_Qi (fun r u => r = iI ((fun (u : (Nat → Int64)) => rgT kn rg) u) ∧ (fun (u : (Nat → Int64)) => (rgT kn rg = 0 → u 0 = zL (gt0 kn sk rg))) u) (fun u t => xE g (va_A [(aR, .inr (10, [.ref aG, .ref aP, .ref aH, .ref aY, .ref aT, .ref aS, .ref aF, .ref aX, .int (iI pr), .int (iI tk), .int (iI tol), .int (iI hou)])), (aG, .inr (3, [.ref aGn, .ref aGw, .ref aGs, .int (iI kn)])), (aGs, .inl (gI g, 200, .inl (ar sk))), (aO, .inl (gl.1, 1, .inr (.inl lo)))] sz) ((fun (u : (Nat → Int64)) => [(aR, .inr (10, [.ref aG, .ref aP, .ref aH, .ref aY, .ref aT, .ref aS, .ref aF, .ref aX, .int (iI pr), .int (iI tk), .int (iI tol), .int (iI hou)])), (aG, .inr (3, [.ref aGn, .ref aGw, .ref aGs, .int (iI kn)])), (aGs, .inl (gI g, 200, .inl (ar sk))), (aO, .inl (gl.1, 1, .inr (.inl u)))]) u) t) (va_A [(aR, .inr (10, [.ref aG, .ref aP, .ref aH, .ref aY, .ref aT, .ref aS, .ref aF, .ref aX, .int (iI pr), .int (iI tk), .int (iI tol), .int (iI hou)])), (aG, .inr (3, [.ref aGn, .ref aGw, .ref aGs, .int (iI kn)])), (aGs, .inl (gI g, 200, .inl (ar sk))), (aO, .inl (gl.1, 1, .inr (.inl lo)))] sz)) 1 6 (va_A [(aR, .inr (10, [.ref aG, .ref aP, .ref aH, .ref aY, .ref aT, .ref aS, .ref aF, .ref aX, .int (iI pr), .int (iI tk), .int (iI tol), .int (iI hou)])), (aG, .inr (3, [.ref aGn, .ref aGw, .ref aGs, .int (iI kn)])), (aGs, .inl (gI g, 200, .inl (ar sk))), (aO, .inl (gl.1, 1, .inr (.inl lo)))] sz) := by
  refine x_enterH (y := yL_sinkingAt) (ws := wsL_sinkingAt) (g := g) (sz := sz) (av := [.ref aR, .int (iI rg), .ref aO]) (WS := [(aR, .inr (10, [.ref aG, .ref aP, .ref aH, .ref aY, .ref aT, .ref aS, .ref aF, .ref aX, .int (iI pr), .int (iI tk), .int (iI tol), .int (iI hou)])), (aG, .inr (3, [.ref aGn, .ref aGw, .ref aGs, .int (iI kn)])), (aGs, .inl (gI g, 200, .inl (ar sk))), (aO, .inl (gl.1, 1, .inr (.inl lo)))]) (cc := cL_sinkingAt) (maxL := 4) (ret := some .int) (Qc := (fun A => (va_Qi (fun r u => r = iI ((fun (u : (Nat → Int64)) => rgT kn rg) u) ∧ (fun (u : (Nat → Int64)) => (rgT kn rg = 0 → u 0 = zL (gt0 kn sk rg))) u) (fun u t => xE g A ((fun (u : (Nat → Int64)) => [(aR, .inr (10, [.ref aG, .ref aP, .ref aH, .ref aY, .ref aT, .ref aS, .ref aF, .ref aX, .int (iI pr), .int (iI tk), .int (iI tol), .int (iI hou)])), (aG, .inr (3, [.ref aGn, .ref aGw, .ref aGs, .int (iI kn)])), (aGs, .inl (gI g, 200, .inl (ar sk))), (aO, .inl (gl.1, 1, .inr (.inl u)))]) u) t) A))) (by decide) rfl (Nat.le_of_ble_eq_true rfl) ?_
  intro p e s m args below meth c A ls hx hb hr hml hown hts hlocks htab hL hC hP hD hS hA hl
  have hK := hC.1
  have hown : s.vm.findClass RL = some m.cls := hown
  have hl : lv_has ls 4 [(0, .ref aR), (1, .int (iI rg)), (2, .ref aO)] := hl
  obtain ⟨H, hH⟩ : ∃ z, z = s.heap := ⟨_, rfl⟩
  obtain ⟨locs, hlo⟩ : ∃ z : List Loc, z = [] := ⟨_, rfl⟩
  obtain ⟨Q9, hQ9⟩ : ∃ z, z = MQ below (va_Qi (fun r u => r = iI ((fun (u : (Nat → Int64)) => rgT kn rg) u) ∧ (fun (u : (Nat → Int64)) => (rgT kn rg = 0 → u 0 = zL (gt0 kn sk rg))) u) (fun u t => xE g A ((fun (u : (Nat → Int64)) => [(aR, .inr (10, [.ref aG, .ref aP, .ref aH, .ref aY, .ref aT, .ref aS, .ref aF, .ref aX, .int (iI pr), .int (iI tk), .int (iI tol), .int (iI hou)])), (aG, .inr (3, [.ref aGn, .ref aGw, .ref aGs, .int (iI kn)])), (aGs, .inl (gI g, 200, .inl (ar sk))), (aO, .inl (gl.1, 1, .inr (.inl u)))]) u) t) A) args s 1 6 A := ⟨_, rfl⟩
  have hP : va_P (gD g) vwCl [(aR, .inr (10, [.ref aG, .ref aP, .ref aH, .ref aY, .ref aT, .ref aS, .ref aF, .ref aX, .int (iI pr), .int (iI tk), .int (iI tol), .int (iI hou)])), (aG, .inr (3, [.ref aGn, .ref aGw, .ref aGs, .int (iI kn)])), (aGs, .inl (gI g, 200, .inl (ar sk))), (aO, .inl (gl.1, 1, .inr (.inl lo)))] H := by rw [hH]; exact hP
  have hS : va_S A s.heap H locs := by rw [hH, hlo]; exact hS
  have goal_ : W p l e { frames := 8, cells := 1, slots := 6, locals := 134 } s m args below meth c H locs 0 0 Q9 (F0 m 0 ls []) := by
    clear hH hlo
    refine lv_aload_n hx hb dL_sinkingAt_0 rfl (lv_at hl 2 rfl) ?_
    refine x_iconst hx hb dL_sinkingAt_1 ?_
    refine lv_aload_n hx hb dL_sinkingAt_2 rfl (lv_at hl 0 rfl) ?_
    refine lv_iload_n hx hb dL_sinkingAt_3 rfl (lv_at hl 1 rfl) ?_
    refine x_calliX (S := Unit) (SX := Unit) (wc := [(aR, .inr (10, [.ref aG, .ref aP, .ref aH, .ref aY, .ref aT, .ref aS, .ref aF, .ref aX, .int (iI pr), .int (iI tk), .int (iI tol), .int (iI hou)])), (aG, .inr (3, [.ref aGn, .ref aGw, .ref aGs, .int (iI kn)])), (aGs, .inl (gI g, 200, .inl (ar sk)))]) (wr := [(aO, .inl (gl.1, 1, .inr (.inl lo)))]) hC hP hD hS hA [0, 1, 2] [3] [1, 2, 3, 0] rfl rfl (fun hpre => vx_runV (As := [.int (iI rg)]) (rest := [.int (iI 0), .ref aO]) ⟨hx, hb, hml, hown, hts⟩ (c_X8_sinkingAt l hflags g H.size aR aG aP aH aY aT aS aF aX aGn aGw aGs pr tk tol hou kn rg sk (by first | (first | assumption | omega | exact bnd_up (by assumption) (by omega) (by omega)) | fail "q8") (by first | (first | assumption | omega | exact bnd_up (by assumption) (by omega) (by omega)) | fail "q8") (by first | (first | assumption | omega | exact bnd_up (by assumption) (by omega) (by omega)) | fail "q8")) (cwV 1 hts gL_sinkingAt_X8_sinkingAt rfl rfl rfl (by decide +kernel) ⟨Nat.le_of_ble_eq_true rfl, Nat.le_of_ble_eq_true rfl⟩) ⟨xB_blind, va_recv hK hP (ci := 10) (q0 := 0) rfl rfl, hpre _⟩ rfl rfl hl.1 rfl (lv_room (Nat.le_of_ble_eq_true rfl)) dL_sinkingAt_4 ⟨Nat.le_of_ble_eq_true rfl, Nat.le_of_ble_eq_true rfl⟩) (fun (u : Unit) => [(aR, .inr (10, [.ref aG, .ref aP, .ref aH, .ref aY, .ref aT, .ref aS, .ref aF, .ref aX, .int (iI pr), .int (iI tk), .int (iI tol), .int (iI hou)])), (aG, .inr (3, [.ref aGn, .ref aGw, .ref aGs, .int (iI kn)])), (aGs, .inl (gI g, 200, .inl (ar sk))), (aO, .inl (gl.1, 1, .inr (.inl lo)))]) (fun (u : Unit) => ([(aR, .inr (10, [.ref aG, .ref aP, .ref aH, .ref aY, .ref aT, .ref aS, .ref aF, .ref aX, .int (iI pr), .int (iI tk), .int (iI tol), .int (iI hou)])), (aG, .inr (3, [.ref aGn, .ref aGw, .ref aGs, .int (iI kn)])), (aGs, .inl (gI g, 200, .inl (ar sk))), (aO, .inl (gl.1, 1, .inr (.inl lo)))] : va_W)) rfl rfl (by decide) (fun _ => rfl) (fun _ => rfl) rfl (fun E ce q9 u H locs hXP hPX hP hD hS hcell hv9 hcl => ?_) (fun u v_1 H locs hv_1 pv_1 hP hD hS => ?_)
    · skip
      have hP : va_P (gD g) vwCl [(aR, .inr (10, [.ref aG, .ref aP, .ref aH, .ref aY, .ref aT, .ref aS, .ref aF, .ref aX, .int (iI pr), .int (iI tk), .int (iI tol), .int (iI hou)])), (aG, .inr (3, [.ref aGn, .ref aGw, .ref aGs, .int (iI kn)])), (aGs, .inl (gI g, 200, .inl (ar sk))), (aO, .inl (gl.1, 1, .inr (.inl lo)))] H := hP
      have hD : va_D A [(aR, .inr (10, [.ref aG, .ref aP, .ref aH, .ref aY, .ref aT, .ref aS, .ref aF, .ref aX, .int (iI pr), .int (iI tk), .int (iI tol), .int (iI hou)])), (aG, .inr (3, [.ref aGn, .ref aGw, .ref aGs, .int (iI kn)])), (aGs, .inl (gI g, 200, .inl (ar sk))), (aO, .inl (gl.1, 1, .inr (.inl lo)))] := hD
      obtain ⟨hE, hp⟩ := hPX
      have hp : rgT kn rg = 1 := hp
      subst hE
      refine vx_catch (E := "java/lang/IndexOutOfBoundsException") (name := "java/lang/IndexOutOfBoundsException") hown [] ⟨0, 9, 12, 24⟩ [] (by rw [htab]; rfl) (fun z hz => by cases hz) (by decide) (by decide) (hts (.classLink RL 24 "java/lang/IndexOutOfBoundsException") (List.mem_of_getElem? (i := 1) rfl)) (va_Nw.use rfl (hC.2.2.2.2.2.2.2.2.2.2.1 "java/lang/IndexOutOfBoundsException" (List.mem_of_getElem? (i := 2) rfl))) hcell hv9 hcl ?_
      refine lv_astore_n (lv' := [(3, .ref q9), (0, .ref aR), (1, .int (iI rg)), (2, .ref aO)]) hx hb dL_sinkingAt_12 rfl hl (by decide) rfl (fun ls hl => ?_)
      refine x_iconst hx hb dL_sinkingAt_13 ?_
      rw [hQ9]
      exact x_iret hx hb hr hlocks hP hD hS (S := (Nat → Int64)) rfl dL_sinkingAt_14 lo (by
          first
          | (
             first | omega | (subst_vars; omega))
          | fail "q9") (by
          first
          | (
             intro h0
             first | (exfalso; omega) | ((try dsimp only); rw [zl_up]; subst_vars; rfl) | ((try dsimp only); rw [zl_up]; congr 1))
          | fail "q9") rfl (Nat.le_of_ble_eq_true rfl) (Nat.le_of_ble_eq_true rfl)
    · skip
      have hP : va_P (gD g) vwCl [(aR, .inr (10, [.ref aG, .ref aP, .ref aH, .ref aY, .ref aT, .ref aS, .ref aF, .ref aX, .int (iI pr), .int (iI tk), .int (iI tol), .int (iI hou)])), (aG, .inr (3, [.ref aGn, .ref aGw, .ref aGs, .int (iI kn)])), (aGs, .inl (gI g, 200, .inl (ar sk))), (aO, .inl (gl.1, 1, .inr (.inl lo)))] H := hP
      have hD : va_D A [(aR, .inr (10, [.ref aG, .ref aP, .ref aH, .ref aY, .ref aT, .ref aS, .ref aF, .ref aX, .int (iI pr), .int (iI tk), .int (iI tol), .int (iI hou)])), (aG, .inr (3, [.ref aGn, .ref aGw, .ref aGs, .int (iI kn)])), (aGs, .inl (gI g, 200, .inl (ar sk))), (aO, .inl (gl.1, 1, .inr (.inl lo)))] := hD
      have hv_1 : v_1 = gt0 kn sk rg := hv_1
      obtain ⟨tv_1, pv_1⟩ := pv_1
      have tv_1 : rgT kn rg = 0 := tv_1
      refine x_i2z hx hb dL_sinkingAt_7 ?_
      refine va_last hx hb hL.1 hP hD hS 3 0 rfl rfl zl_in dL_sinkingAt_8 (fun H locs hP hD hS => ?_)
      have hP : va_P (gD g) vwCl [(aR, .inr (10, [.ref aG, .ref aP, .ref aH, .ref aY, .ref aT, .ref aS, .ref aF, .ref aX, .int (iI pr), .int (iI tk), .int (iI tol), .int (iI hou)])), (aG, .inr (3, [.ref aGn, .ref aGw, .ref aGs, .int (iI kn)])), (aGs, .inl (gI g, 200, .inl (ar sk))), (aO, .inl (gl.1, 1, .inr (.inl (vp_updL lo (iI 0).toNatClampNeg (zL v_1)))))] H := hP
      have hD : va_D A [(aR, .inr (10, [.ref aG, .ref aP, .ref aH, .ref aY, .ref aT, .ref aS, .ref aF, .ref aX, .int (iI pr), .int (iI tk), .int (iI tol), .int (iI hou)])), (aG, .inr (3, [.ref aGn, .ref aGw, .ref aGs, .int (iI kn)])), (aGs, .inl (gI g, 200, .inl (ar sk))), (aO, .inl (gl.1, 1, .inr (.inl (vp_updL lo (iI 0).toNatClampNeg (zL v_1)))))] := hD
      refine lv_goto (tgt := 15) hx hb dL_sinkingAt_9 (by decide) ?_
      refine x_iconst hx hb dL_sinkingAt_15 ?_
      rw [hQ9]
      exact x_iret hx hb hr hlocks hP hD hS (S := (Nat → Int64)) rfl dL_sinkingAt_16 (vp_updL lo (iI 0).toNatClampNeg (zL v_1)) (by
          first
          | (
             first | omega | (subst_vars; omega))
          | fail "q9") (by
          first
          | (
             intro h0
             first | (exfalso; omega) | ((try dsimp only); rw [zl_up]; subst_vars; rfl) | ((try dsimp only); rw [zl_up]; congr 1))
          | fail "q9") rfl (Nat.le_of_ble_eq_true rfl) (Nat.le_of_ble_eq_true rfl)
  rw [hH, hlo, hQ9] at goal_
  exact goal_

set_option maxHeartbeats 4000000 in
set_option maxRecDepth 100000 in
theorem c_L_sinkingOf (l : Launch) (hflags : l.stackTraces = false) (g : xg) (gl : ClassId × ClassId) (sz : Nat) (aR aG aP aH aY aT aS aF aX aHf aHl aHm aHr aHp aGn aGw aGs aO : Nat) (pr tk tol hou bu kn h0 : Int) (fi la sk : Int → Int) (lo : Nat → Int64) (hkn : 0 ≤ kn ∧ kn ≤ 200) (hbu : 0 ≤ bu ∧ bu ≤ 8) (hb_sk : bnd sk 0 500000) (hb_fi : bnd fi 0 199) (hb_la : bnd la 0 199) (hfl : ∀ h : Int, 0 ≤ h → h < bu → fi h ≤ la h) (hlk : ∀ h : Int, 0 ≤ h → h < bu → la h < kn) (hr_h0 : iR h0) : Met l yL_sinkingOf wsL_sinkingOf { frames := 8, cells := 1, slots := 6, locals := 134 } (va_Pc [.ref aR, .int (iI h0), .ref aO] (xBL g gl [(aR, .inr (10, [.ref aG, .ref aP, .ref aH, .ref aY, .ref aT, .ref aS, .ref aF, .ref aX, .int (iI pr), .int (iI tk), .int (iI tol), .int (iI hou)])), (aH, .inr (4, [.ref aHf, .ref aHl, .ref aHm, .ref aHr, .ref aHp, .int (iI bu)])), (aHf, .inl (gI g, 8, .inl (ar fi))), (aHl, .inl (gI g, 8, .inl (ar la))), (aG, .inr (3, [.ref aGn, .ref aGw, .ref aGs, .int (iI kn)])), (aGs, .inl (gI g, 200, .inl (ar sk))), (aO, .inl (gl.1, 1, .inr (.inl lo)))] sz)) (va_Qi (fun r u => r = iI ((fun (u : (Nat → Int64)) => rgT bu h0) u) ∧ (fun (u : (Nat → Int64)) => (rgT bu h0 = 0 → u 0 = zL (mostF sk fi la h0))) u) (fun u t => xE g (va_A [(aR, .inr (10, [.ref aG, .ref aP, .ref aH, .ref aY, .ref aT, .ref aS, .ref aF, .ref aX, .int (iI pr), .int (iI tk), .int (iI tol), .int (iI hou)])), (aH, .inr (4, [.ref aHf, .ref aHl, .ref aHm, .ref aHr, .ref aHp, .int (iI bu)])), (aHf, .inl (gI g, 8, .inl (ar fi))), (aHl, .inl (gI g, 8, .inl (ar la))), (aG, .inr (3, [.ref aGn, .ref aGw, .ref aGs, .int (iI kn)])), (aGs, .inl (gI g, 200, .inl (ar sk))), (aO, .inl (gl.1, 1, .inr (.inl lo)))] sz) ((fun (u : (Nat → Int64)) => [(aR, .inr (10, [.ref aG, .ref aP, .ref aH, .ref aY, .ref aT, .ref aS, .ref aF, .ref aX, .int (iI pr), .int (iI tk), .int (iI tol), .int (iI hou)])), (aH, .inr (4, [.ref aHf, .ref aHl, .ref aHm, .ref aHr, .ref aHp, .int (iI bu)])), (aHf, .inl (gI g, 8, .inl (ar fi))), (aHl, .inl (gI g, 8, .inl (ar la))), (aG, .inr (3, [.ref aGn, .ref aGw, .ref aGs, .int (iI kn)])), (aGs, .inl (gI g, 200, .inl (ar sk))), (aO, .inl (gl.1, 1, .inr (.inl u)))]) u) t) (va_A [(aR, .inr (10, [.ref aG, .ref aP, .ref aH, .ref aY, .ref aT, .ref aS, .ref aF, .ref aX, .int (iI pr), .int (iI tk), .int (iI tol), .int (iI hou)])), (aH, .inr (4, [.ref aHf, .ref aHl, .ref aHm, .ref aHr, .ref aHp, .int (iI bu)])), (aHf, .inl (gI g, 8, .inl (ar fi))), (aHl, .inl (gI g, 8, .inl (ar la))), (aG, .inr (3, [.ref aGn, .ref aGw, .ref aGs, .int (iI kn)])), (aGs, .inl (gI g, 200, .inl (ar sk))), (aO, .inl (gl.1, 1, .inr (.inl lo)))] sz)) 1 6 (va_A [(aR, .inr (10, [.ref aG, .ref aP, .ref aH, .ref aY, .ref aT, .ref aS, .ref aF, .ref aX, .int (iI pr), .int (iI tk), .int (iI tol), .int (iI hou)])), (aH, .inr (4, [.ref aHf, .ref aHl, .ref aHm, .ref aHr, .ref aHp, .int (iI bu)])), (aHf, .inl (gI g, 8, .inl (ar fi))), (aHl, .inl (gI g, 8, .inl (ar la))), (aG, .inr (3, [.ref aGn, .ref aGw, .ref aGs, .int (iI kn)])), (aGs, .inl (gI g, 200, .inl (ar sk))), (aO, .inl (gl.1, 1, .inr (.inl lo)))] sz) := by
  refine x_enterH (y := yL_sinkingOf) (ws := wsL_sinkingOf) (g := g) (sz := sz) (av := [.ref aR, .int (iI h0), .ref aO]) (WS := [(aR, .inr (10, [.ref aG, .ref aP, .ref aH, .ref aY, .ref aT, .ref aS, .ref aF, .ref aX, .int (iI pr), .int (iI tk), .int (iI tol), .int (iI hou)])), (aH, .inr (4, [.ref aHf, .ref aHl, .ref aHm, .ref aHr, .ref aHp, .int (iI bu)])), (aHf, .inl (gI g, 8, .inl (ar fi))), (aHl, .inl (gI g, 8, .inl (ar la))), (aG, .inr (3, [.ref aGn, .ref aGw, .ref aGs, .int (iI kn)])), (aGs, .inl (gI g, 200, .inl (ar sk))), (aO, .inl (gl.1, 1, .inr (.inl lo)))]) (cc := cL_sinkingOf) (maxL := 4) (ret := some .int) (Qc := (fun A => (va_Qi (fun r u => r = iI ((fun (u : (Nat → Int64)) => rgT bu h0) u) ∧ (fun (u : (Nat → Int64)) => (rgT bu h0 = 0 → u 0 = zL (mostF sk fi la h0))) u) (fun u t => xE g A ((fun (u : (Nat → Int64)) => [(aR, .inr (10, [.ref aG, .ref aP, .ref aH, .ref aY, .ref aT, .ref aS, .ref aF, .ref aX, .int (iI pr), .int (iI tk), .int (iI tol), .int (iI hou)])), (aH, .inr (4, [.ref aHf, .ref aHl, .ref aHm, .ref aHr, .ref aHp, .int (iI bu)])), (aHf, .inl (gI g, 8, .inl (ar fi))), (aHl, .inl (gI g, 8, .inl (ar la))), (aG, .inr (3, [.ref aGn, .ref aGw, .ref aGs, .int (iI kn)])), (aGs, .inl (gI g, 200, .inl (ar sk))), (aO, .inl (gl.1, 1, .inr (.inl u)))]) u) t) A))) (by decide) rfl (Nat.le_of_ble_eq_true rfl) ?_
  intro p e s m args below meth c A ls hx hb hr hml hown hts hlocks htab hL hC hP hD hS hA hl
  have hK := hC.1
  have hown : s.vm.findClass RL = some m.cls := hown
  have hl : lv_has ls 4 [(0, .ref aR), (1, .int (iI h0)), (2, .ref aO)] := hl
  obtain ⟨H, hH⟩ : ∃ z, z = s.heap := ⟨_, rfl⟩
  obtain ⟨locs, hlo⟩ : ∃ z : List Loc, z = [] := ⟨_, rfl⟩
  obtain ⟨Q9, hQ9⟩ : ∃ z, z = MQ below (va_Qi (fun r u => r = iI ((fun (u : (Nat → Int64)) => rgT bu h0) u) ∧ (fun (u : (Nat → Int64)) => (rgT bu h0 = 0 → u 0 = zL (mostF sk fi la h0))) u) (fun u t => xE g A ((fun (u : (Nat → Int64)) => [(aR, .inr (10, [.ref aG, .ref aP, .ref aH, .ref aY, .ref aT, .ref aS, .ref aF, .ref aX, .int (iI pr), .int (iI tk), .int (iI tol), .int (iI hou)])), (aH, .inr (4, [.ref aHf, .ref aHl, .ref aHm, .ref aHr, .ref aHp, .int (iI bu)])), (aHf, .inl (gI g, 8, .inl (ar fi))), (aHl, .inl (gI g, 8, .inl (ar la))), (aG, .inr (3, [.ref aGn, .ref aGw, .ref aGs, .int (iI kn)])), (aGs, .inl (gI g, 200, .inl (ar sk))), (aO, .inl (gl.1, 1, .inr (.inl u)))]) u) t) A) args s 1 6 A := ⟨_, rfl⟩
  have hP : va_P (gD g) vwCl [(aR, .inr (10, [.ref aG, .ref aP, .ref aH, .ref aY, .ref aT, .ref aS, .ref aF, .ref aX, .int (iI pr), .int (iI tk), .int (iI tol), .int (iI hou)])), (aH, .inr (4, [.ref aHf, .ref aHl, .ref aHm, .ref aHr, .ref aHp, .int (iI bu)])), (aHf, .inl (gI g, 8, .inl (ar fi))), (aHl, .inl (gI g, 8, .inl (ar la))), (aG, .inr (3, [.ref aGn, .ref aGw, .ref aGs, .int (iI kn)])), (aGs, .inl (gI g, 200, .inl (ar sk))), (aO, .inl (gl.1, 1, .inr (.inl lo)))] H := by rw [hH]; exact hP
  have hS : va_S A s.heap H locs := by rw [hH, hlo]; exact hS
  have goal_ : W p l e { frames := 8, cells := 1, slots := 6, locals := 134 } s m args below meth c H locs 0 0 Q9 (F0 m 0 ls []) := by
    clear hH hlo
    refine lv_aload_n hx hb dL_sinkingOf_0 rfl (lv_at hl 2 rfl) ?_
    refine x_iconst hx hb dL_sinkingOf_1 ?_
    refine lv_aload_n hx hb dL_sinkingOf_2 rfl (lv_at hl 0 rfl) ?_
    refine lv_iload_n hx hb dL_sinkingOf_3 rfl (lv_at hl 1 rfl) ?_
    refine x_calliX (S := Unit) (SX := Unit) (wc := [(aR, .inr (10, [.ref aG, .ref aP, .ref aH, .ref aY, .ref aT, .ref aS, .ref aF, .ref aX, .int (iI pr), .int (iI tk), .int (iI tol), .int (iI hou)])), (aH, .inr (4, [.ref aHf, .ref aHl, .ref aHm, .ref aHr, .ref aHp, .int (iI bu)])), (aHf, .inl (gI g, 8, .inl (ar fi))), (aHl, .inl (gI g, 8, .inl (ar la))), (aG, .inr (3, [.ref aGn, .ref aGw, .ref aGs, .int (iI kn)])), (aGs, .inl (gI g, 200, .inl (ar sk)))]) (wr := [(aO, .inl (gl.1, 1, .inr (.inl lo)))]) hC hP hD hS hA [0, 1, 2, 3, 4, 5] [6] [1, 2, 3, 4, 5, 6, 0] rfl rfl (fun hpre => vx_runV (As := [.int (iI h0)]) (rest := [.int (iI 0), .ref aO]) ⟨hx, hb, hml, hown, hts⟩ (c_X8_sinkingOf l hflags g H.size aR aG aP aH aY aT aS aF aX aHf aHl aHm aHr aHp aGn aGw aGs pr tk tol hou bu kn h0 fi la sk (by first | (first | assumption | omega | exact bnd_up (by assumption) (by omega) (by omega)) | fail "q8") (by first | (first | assumption | omega | exact bnd_up (by assumption) (by omega) (by omega)) | fail "q8") (by first | (first | assumption | omega | exact bnd_up (by assumption) (by omega) (by omega)) | fail "q8") (by first | (first | assumption | omega | exact bnd_up (by assumption) (by omega) (by omega)) | fail "q8") (by first | (first | assumption | omega | exact bnd_up (by assumption) (by omega) (by omega)) | fail "q8") (by first | (first | assumption | omega | exact bnd_up (by assumption) (by omega) (by omega)) | fail "q8") (by first | (first | assumption | omega | exact bnd_up (by assumption) (by omega) (by omega)) | fail "q8") (by first | (first | assumption | omega | exact bnd_up (by assumption) (by omega) (by omega)) | fail "q8")) (cwV 1 hts gL_sinkingOf_X8_sinkingOf rfl rfl rfl (by decide +kernel) ⟨Nat.le_of_ble_eq_true rfl, Nat.le_of_ble_eq_true rfl⟩) ⟨xB_blind, va_recv hK hP (ci := 10) (q0 := 0) rfl rfl, hpre _⟩ rfl rfl hl.1 rfl (lv_room (Nat.le_of_ble_eq_true rfl)) dL_sinkingOf_4 ⟨Nat.le_of_ble_eq_true rfl, Nat.le_of_ble_eq_true rfl⟩) (fun (u : Unit) => [(aR, .inr (10, [.ref aG, .ref aP, .ref aH, .ref aY, .ref aT, .ref aS, .ref aF, .ref aX, .int (iI pr), .int (iI tk), .int (iI tol), .int (iI hou)])), (aH, .inr (4, [.ref aHf, .ref aHl, .ref aHm, .ref aHr, .ref aHp, .int (iI bu)])), (aHf, .inl (gI g, 8, .inl (ar fi))), (aHl, .inl (gI g, 8, .inl (ar la))), (aG, .inr (3, [.ref aGn, .ref aGw, .ref aGs, .int (iI kn)])), (aGs, .inl (gI g, 200, .inl (ar sk))), (aO, .inl (gl.1, 1, .inr (.inl lo)))]) (fun (u : Unit) => ([(aR, .inr (10, [.ref aG, .ref aP, .ref aH, .ref aY, .ref aT, .ref aS, .ref aF, .ref aX, .int (iI pr), .int (iI tk), .int (iI tol), .int (iI hou)])), (aH, .inr (4, [.ref aHf, .ref aHl, .ref aHm, .ref aHr, .ref aHp, .int (iI bu)])), (aHf, .inl (gI g, 8, .inl (ar fi))), (aHl, .inl (gI g, 8, .inl (ar la))), (aG, .inr (3, [.ref aGn, .ref aGw, .ref aGs, .int (iI kn)])), (aGs, .inl (gI g, 200, .inl (ar sk))), (aO, .inl (gl.1, 1, .inr (.inl lo)))] : va_W)) rfl rfl (by decide) (fun _ => rfl) (fun _ => rfl) rfl (fun E ce q9 u H locs hXP hPX hP hD hS hcell hv9 hcl => ?_) (fun u v_1 H locs hv_1 pv_1 hP hD hS => ?_)
    · skip
      have hP : va_P (gD g) vwCl [(aR, .inr (10, [.ref aG, .ref aP, .ref aH, .ref aY, .ref aT, .ref aS, .ref aF, .ref aX, .int (iI pr), .int (iI tk), .int (iI tol), .int (iI hou)])), (aH, .inr (4, [.ref aHf, .ref aHl, .ref aHm, .ref aHr, .ref aHp, .int (iI bu)])), (aHf, .inl (gI g, 8, .inl (ar fi))), (aHl, .inl (gI g, 8, .inl (ar la))), (aG, .inr (3, [.ref aGn, .ref aGw, .ref aGs, .int (iI kn)])), (aGs, .inl (gI g, 200, .inl (ar sk))), (aO, .inl (gl.1, 1, .inr (.inl lo)))] H := hP
      have hD : va_D A [(aR, .inr (10, [.ref aG, .ref aP, .ref aH, .ref aY, .ref aT, .ref aS, .ref aF, .ref aX, .int (iI pr), .int (iI tk), .int (iI tol), .int (iI hou)])), (aH, .inr (4, [.ref aHf, .ref aHl, .ref aHm, .ref aHr, .ref aHp, .int (iI bu)])), (aHf, .inl (gI g, 8, .inl (ar fi))), (aHl, .inl (gI g, 8, .inl (ar la))), (aG, .inr (3, [.ref aGn, .ref aGw, .ref aGs, .int (iI kn)])), (aGs, .inl (gI g, 200, .inl (ar sk))), (aO, .inl (gl.1, 1, .inr (.inl lo)))] := hD
      obtain ⟨hE, hp⟩ := hPX
      have hp : rgT bu h0 = 1 := hp
      subst hE
      refine vx_catch (E := "java/lang/IndexOutOfBoundsException") (name := "java/lang/IndexOutOfBoundsException") hown [] ⟨0, 9, 12, 24⟩ [] (by rw [htab]; rfl) (fun z hz => by cases hz) (by decide) (by decide) (hts (.classLink RL 24 "java/lang/IndexOutOfBoundsException") (List.mem_of_getElem? (i := 1) rfl)) (va_Nw.use rfl (hC.2.2.2.2.2.2.2.2.2.2.1 "java/lang/IndexOutOfBoundsException" (List.mem_of_getElem? (i := 2) rfl))) hcell hv9 hcl ?_
      refine lv_astore_n (lv' := [(3, .ref q9), (0, .ref aR), (1, .int (iI h0)), (2, .ref aO)]) hx hb dL_sinkingOf_12 rfl hl (by decide) rfl (fun ls hl => ?_)
      refine x_iconst hx hb dL_sinkingOf_13 ?_
      rw [hQ9]
      exact x_iret hx hb hr hlocks hP hD hS (S := (Nat → Int64)) rfl dL_sinkingOf_14 lo (by
          first
          | (
             first | omega | (subst_vars; omega))
          | fail "q9") (by
          first
          | (
             intro h0
             first | (exfalso; omega) | ((try dsimp only); rw [zl_up]; subst_vars; rfl) | ((try dsimp only); rw [zl_up]; congr 1))
          | fail "q9") rfl (Nat.le_of_ble_eq_true rfl) (Nat.le_of_ble_eq_true rfl)
    · skip
      have hP : va_P (gD g) vwCl [(aR, .inr (10, [.ref aG, .ref aP, .ref aH, .ref aY, .ref aT, .ref aS, .ref aF, .ref aX, .int (iI pr), .int (iI tk), .int (iI tol), .int (iI hou)])), (aH, .inr (4, [.ref aHf, .ref aHl, .ref aHm, .ref aHr, .ref aHp, .int (iI bu)])), (aHf, .inl (gI g, 8, .inl (ar fi))), (aHl, .inl (gI g, 8, .inl (ar la))), (aG, .inr (3, [.ref aGn, .ref aGw, .ref aGs, .int (iI kn)])), (aGs, .inl (gI g, 200, .inl (ar sk))), (aO, .inl (gl.1, 1, .inr (.inl lo)))] H := hP
      have hD : va_D A [(aR, .inr (10, [.ref aG, .ref aP, .ref aH, .ref aY, .ref aT, .ref aS, .ref aF, .ref aX, .int (iI pr), .int (iI tk), .int (iI tol), .int (iI hou)])), (aH, .inr (4, [.ref aHf, .ref aHl, .ref aHm, .ref aHr, .ref aHp, .int (iI bu)])), (aHf, .inl (gI g, 8, .inl (ar fi))), (aHl, .inl (gI g, 8, .inl (ar la))), (aG, .inr (3, [.ref aGn, .ref aGw, .ref aGs, .int (iI kn)])), (aGs, .inl (gI g, 200, .inl (ar sk))), (aO, .inl (gl.1, 1, .inr (.inl lo)))] := hD
      have hv_1 : v_1 = mostF sk fi la h0 := hv_1
      obtain ⟨tv_1, pv_1⟩ := pv_1
      have tv_1 : rgT bu h0 = 0 := tv_1
      refine x_i2z hx hb dL_sinkingOf_7 ?_
      refine va_last hx hb hL.1 hP hD hS 6 0 rfl rfl zl_in dL_sinkingOf_8 (fun H locs hP hD hS => ?_)
      have hP : va_P (gD g) vwCl [(aR, .inr (10, [.ref aG, .ref aP, .ref aH, .ref aY, .ref aT, .ref aS, .ref aF, .ref aX, .int (iI pr), .int (iI tk), .int (iI tol), .int (iI hou)])), (aH, .inr (4, [.ref aHf, .ref aHl, .ref aHm, .ref aHr, .ref aHp, .int (iI bu)])), (aHf, .inl (gI g, 8, .inl (ar fi))), (aHl, .inl (gI g, 8, .inl (ar la))), (aG, .inr (3, [.ref aGn, .ref aGw, .ref aGs, .int (iI kn)])), (aGs, .inl (gI g, 200, .inl (ar sk))), (aO, .inl (gl.1, 1, .inr (.inl (vp_updL lo (iI 0).toNatClampNeg (zL v_1)))))] H := hP
      have hD : va_D A [(aR, .inr (10, [.ref aG, .ref aP, .ref aH, .ref aY, .ref aT, .ref aS, .ref aF, .ref aX, .int (iI pr), .int (iI tk), .int (iI tol), .int (iI hou)])), (aH, .inr (4, [.ref aHf, .ref aHl, .ref aHm, .ref aHr, .ref aHp, .int (iI bu)])), (aHf, .inl (gI g, 8, .inl (ar fi))), (aHl, .inl (gI g, 8, .inl (ar la))), (aG, .inr (3, [.ref aGn, .ref aGw, .ref aGs, .int (iI kn)])), (aGs, .inl (gI g, 200, .inl (ar sk))), (aO, .inl (gl.1, 1, .inr (.inl (vp_updL lo (iI 0).toNatClampNeg (zL v_1)))))] := hD
      refine lv_goto (tgt := 15) hx hb dL_sinkingOf_9 (by decide) ?_
      refine x_iconst hx hb dL_sinkingOf_15 ?_
      rw [hQ9]
      exact x_iret hx hb hr hlocks hP hD hS (S := (Nat → Int64)) rfl dL_sinkingOf_16 (vp_updL lo (iI 0).toNatClampNeg (zL v_1)) (by
          first
          | (
             first | omega | (subst_vars; omega))
          | fail "q9") (by
          first
          | (
             intro h0
             first | (exfalso; omega) | ((try dsimp only); rw [zl_up]; subst_vars; rfl) | ((try dsimp only); rw [zl_up]; congr 1))
          | fail "q9") rfl (Nat.le_of_ble_eq_true rfl) (Nat.le_of_ble_eq_true rfl)
  rw [hH, hlo, hQ9] at goal_
  exact goal_

set_option maxHeartbeats 4000000 in
set_option maxRecDepth 100000 in
theorem c_L_tiltOf (l : Launch) (hflags : l.stackTraces = false) (g : xg) (gl : ClassId × ClassId) (sz : Nat) (aR aG aP aH aY aT aS aF aX aHf aHl aHm aHr aHp aGn aGw aGs aO : Nat) (pr tk tol hou bu kn h0 : Int) (fi la sk : Int → Int) (lo : Nat → Int64) (hkn : 0 ≤ kn ∧ kn ≤ 200) (hbu : 0 ≤ bu ∧ bu ≤ 8) (hb_sk : bnd sk 0 500000) (hb_fi : bnd fi 0 199) (hb_la : bnd la 0 199) (hfl : ∀ h : Int, 0 ≤ h → h < bu → fi h ≤ la h) (hlk : ∀ h : Int, 0 ≤ h → h < bu → la h < kn) (hr_h0 : iR h0) : Met l yL_tiltOf wsL_tiltOf { frames := 8, cells := 1, slots := 6, locals := 134 } (va_Pc [.ref aR, .int (iI h0), .ref aO] (xBL g gl [(aR, .inr (10, [.ref aG, .ref aP, .ref aH, .ref aY, .ref aT, .ref aS, .ref aF, .ref aX, .int (iI pr), .int (iI tk), .int (iI tol), .int (iI hou)])), (aH, .inr (4, [.ref aHf, .ref aHl, .ref aHm, .ref aHr, .ref aHp, .int (iI bu)])), (aHf, .inl (gI g, 8, .inl (ar fi))), (aHl, .inl (gI g, 8, .inl (ar la))), (aG, .inr (3, [.ref aGn, .ref aGw, .ref aGs, .int (iI kn)])), (aGs, .inl (gI g, 200, .inl (ar sk))), (aO, .inl (gl.1, 1, .inr (.inl lo)))] sz)) (va_Qi (fun r u => r = iI ((fun (u : (Nat → Int64)) => rgT bu h0) u) ∧ (fun (u : (Nat → Int64)) => (rgT bu h0 = 0 → u 0 = zL (mostF sk fi la h0 - mnI sk (fi h0) (mostF sk fi la h0) (la h0 - fi h0 + 1)))) u) (fun u t => xE g (va_A [(aR, .inr (10, [.ref aG, .ref aP, .ref aH, .ref aY, .ref aT, .ref aS, .ref aF, .ref aX, .int (iI pr), .int (iI tk), .int (iI tol), .int (iI hou)])), (aH, .inr (4, [.ref aHf, .ref aHl, .ref aHm, .ref aHr, .ref aHp, .int (iI bu)])), (aHf, .inl (gI g, 8, .inl (ar fi))), (aHl, .inl (gI g, 8, .inl (ar la))), (aG, .inr (3, [.ref aGn, .ref aGw, .ref aGs, .int (iI kn)])), (aGs, .inl (gI g, 200, .inl (ar sk))), (aO, .inl (gl.1, 1, .inr (.inl lo)))] sz) ((fun (u : (Nat → Int64)) => [(aR, .inr (10, [.ref aG, .ref aP, .ref aH, .ref aY, .ref aT, .ref aS, .ref aF, .ref aX, .int (iI pr), .int (iI tk), .int (iI tol), .int (iI hou)])), (aH, .inr (4, [.ref aHf, .ref aHl, .ref aHm, .ref aHr, .ref aHp, .int (iI bu)])), (aHf, .inl (gI g, 8, .inl (ar fi))), (aHl, .inl (gI g, 8, .inl (ar la))), (aG, .inr (3, [.ref aGn, .ref aGw, .ref aGs, .int (iI kn)])), (aGs, .inl (gI g, 200, .inl (ar sk))), (aO, .inl (gl.1, 1, .inr (.inl u)))]) u) t) (va_A [(aR, .inr (10, [.ref aG, .ref aP, .ref aH, .ref aY, .ref aT, .ref aS, .ref aF, .ref aX, .int (iI pr), .int (iI tk), .int (iI tol), .int (iI hou)])), (aH, .inr (4, [.ref aHf, .ref aHl, .ref aHm, .ref aHr, .ref aHp, .int (iI bu)])), (aHf, .inl (gI g, 8, .inl (ar fi))), (aHl, .inl (gI g, 8, .inl (ar la))), (aG, .inr (3, [.ref aGn, .ref aGw, .ref aGs, .int (iI kn)])), (aGs, .inl (gI g, 200, .inl (ar sk))), (aO, .inl (gl.1, 1, .inr (.inl lo)))] sz)) 1 6 (va_A [(aR, .inr (10, [.ref aG, .ref aP, .ref aH, .ref aY, .ref aT, .ref aS, .ref aF, .ref aX, .int (iI pr), .int (iI tk), .int (iI tol), .int (iI hou)])), (aH, .inr (4, [.ref aHf, .ref aHl, .ref aHm, .ref aHr, .ref aHp, .int (iI bu)])), (aHf, .inl (gI g, 8, .inl (ar fi))), (aHl, .inl (gI g, 8, .inl (ar la))), (aG, .inr (3, [.ref aGn, .ref aGw, .ref aGs, .int (iI kn)])), (aGs, .inl (gI g, 200, .inl (ar sk))), (aO, .inl (gl.1, 1, .inr (.inl lo)))] sz) := by
  refine x_enterH (y := yL_tiltOf) (ws := wsL_tiltOf) (g := g) (sz := sz) (av := [.ref aR, .int (iI h0), .ref aO]) (WS := [(aR, .inr (10, [.ref aG, .ref aP, .ref aH, .ref aY, .ref aT, .ref aS, .ref aF, .ref aX, .int (iI pr), .int (iI tk), .int (iI tol), .int (iI hou)])), (aH, .inr (4, [.ref aHf, .ref aHl, .ref aHm, .ref aHr, .ref aHp, .int (iI bu)])), (aHf, .inl (gI g, 8, .inl (ar fi))), (aHl, .inl (gI g, 8, .inl (ar la))), (aG, .inr (3, [.ref aGn, .ref aGw, .ref aGs, .int (iI kn)])), (aGs, .inl (gI g, 200, .inl (ar sk))), (aO, .inl (gl.1, 1, .inr (.inl lo)))]) (cc := cL_tiltOf) (maxL := 4) (ret := some .int) (Qc := (fun A => (va_Qi (fun r u => r = iI ((fun (u : (Nat → Int64)) => rgT bu h0) u) ∧ (fun (u : (Nat → Int64)) => (rgT bu h0 = 0 → u 0 = zL (mostF sk fi la h0 - mnI sk (fi h0) (mostF sk fi la h0) (la h0 - fi h0 + 1)))) u) (fun u t => xE g A ((fun (u : (Nat → Int64)) => [(aR, .inr (10, [.ref aG, .ref aP, .ref aH, .ref aY, .ref aT, .ref aS, .ref aF, .ref aX, .int (iI pr), .int (iI tk), .int (iI tol), .int (iI hou)])), (aH, .inr (4, [.ref aHf, .ref aHl, .ref aHm, .ref aHr, .ref aHp, .int (iI bu)])), (aHf, .inl (gI g, 8, .inl (ar fi))), (aHl, .inl (gI g, 8, .inl (ar la))), (aG, .inr (3, [.ref aGn, .ref aGw, .ref aGs, .int (iI kn)])), (aGs, .inl (gI g, 200, .inl (ar sk))), (aO, .inl (gl.1, 1, .inr (.inl u)))]) u) t) A))) (by decide) rfl (Nat.le_of_ble_eq_true rfl) ?_
  intro p e s m args below meth c A ls hx hb hr hml hown hts hlocks htab hL hC hP hD hS hA hl
  have hK := hC.1
  have hown : s.vm.findClass RL = some m.cls := hown
  have hl : lv_has ls 4 [(0, .ref aR), (1, .int (iI h0)), (2, .ref aO)] := hl
  obtain ⟨H, hH⟩ : ∃ z, z = s.heap := ⟨_, rfl⟩
  obtain ⟨locs, hlo⟩ : ∃ z : List Loc, z = [] := ⟨_, rfl⟩
  obtain ⟨Q9, hQ9⟩ : ∃ z, z = MQ below (va_Qi (fun r u => r = iI ((fun (u : (Nat → Int64)) => rgT bu h0) u) ∧ (fun (u : (Nat → Int64)) => (rgT bu h0 = 0 → u 0 = zL (mostF sk fi la h0 - mnI sk (fi h0) (mostF sk fi la h0) (la h0 - fi h0 + 1)))) u) (fun u t => xE g A ((fun (u : (Nat → Int64)) => [(aR, .inr (10, [.ref aG, .ref aP, .ref aH, .ref aY, .ref aT, .ref aS, .ref aF, .ref aX, .int (iI pr), .int (iI tk), .int (iI tol), .int (iI hou)])), (aH, .inr (4, [.ref aHf, .ref aHl, .ref aHm, .ref aHr, .ref aHp, .int (iI bu)])), (aHf, .inl (gI g, 8, .inl (ar fi))), (aHl, .inl (gI g, 8, .inl (ar la))), (aG, .inr (3, [.ref aGn, .ref aGw, .ref aGs, .int (iI kn)])), (aGs, .inl (gI g, 200, .inl (ar sk))), (aO, .inl (gl.1, 1, .inr (.inl u)))]) u) t) A) args s 1 6 A := ⟨_, rfl⟩
  have hP : va_P (gD g) vwCl [(aR, .inr (10, [.ref aG, .ref aP, .ref aH, .ref aY, .ref aT, .ref aS, .ref aF, .ref aX, .int (iI pr), .int (iI tk), .int (iI tol), .int (iI hou)])), (aH, .inr (4, [.ref aHf, .ref aHl, .ref aHm, .ref aHr, .ref aHp, .int (iI bu)])), (aHf, .inl (gI g, 8, .inl (ar fi))), (aHl, .inl (gI g, 8, .inl (ar la))), (aG, .inr (3, [.ref aGn, .ref aGw, .ref aGs, .int (iI kn)])), (aGs, .inl (gI g, 200, .inl (ar sk))), (aO, .inl (gl.1, 1, .inr (.inl lo)))] H := by rw [hH]; exact hP
  have hS : va_S A s.heap H locs := by rw [hH, hlo]; exact hS
  have goal_ : W p l e { frames := 8, cells := 1, slots := 6, locals := 134 } s m args below meth c H locs 0 0 Q9 (F0 m 0 ls []) := by
    clear hH hlo
    refine lv_aload_n hx hb dL_tiltOf_0 rfl (lv_at hl 2 rfl) ?_
    refine x_iconst hx hb dL_tiltOf_1 ?_
    refine lv_aload_n hx hb dL_tiltOf_2 rfl (lv_at hl 0 rfl) ?_
    refine lv_iload_n hx hb dL_tiltOf_3 rfl (lv_at hl 1 rfl) ?_
    refine x_calliX (S := Unit) (SX := Unit) (wc := [(aR, .inr (10, [.ref aG, .ref aP, .ref aH, .ref aY, .ref aT, .ref aS, .ref aF, .ref aX, .int (iI pr), .int (iI tk), .int (iI tol), .int (iI hou)])), (aH, .inr (4, [.ref aHf, .ref aHl, .ref aHm, .ref aHr, .ref aHp, .int (iI bu)])), (aHf, .inl (gI g, 8, .inl (ar fi))), (aHl, .inl (gI g, 8, .inl (ar la))), (aG, .inr (3, [.ref aGn, .ref aGw, .ref aGs, .int (iI kn)])), (aGs, .inl (gI g, 200, .inl (ar sk)))]) (wr := [(aO, .inl (gl.1, 1, .inr (.inl lo)))]) hC hP hD hS hA [0, 1, 2, 3, 4, 5] [6] [1, 2, 3, 4, 5, 6, 0] rfl rfl (fun hpre => vx_runV (As := [.int (iI h0)]) (rest := [.int (iI 0), .ref aO]) ⟨hx, hb, hml, hown, hts⟩ (c_X8_tiltOf l hflags g H.size aR aG aP aH aY aT aS aF aX aHf aHl aHm aHr aHp aGn aGw aGs pr tk tol hou bu kn h0 fi la sk (by first | (first | assumption | omega | exact bnd_up (by assumption) (by omega) (by omega)) | fail "q8") (by first | (first | assumption | omega | exact bnd_up (by assumption) (by omega) (by omega)) | fail "q8") (by first | (first | assumption | omega | exact bnd_up (by assumption) (by omega) (by omega)) | fail "q8") (by first | (first | assumption | omega | exact bnd_up (by assumption) (by omega) (by omega)) | fail "q8") (by first | (first | assumption | omega | exact bnd_up (by assumption) (by omega) (by omega)) | fail "q8") (by first | (first | assumption | omega | exact bnd_up (by assumption) (by omega) (by omega)) | fail "q8") (by first | (first | assumption | omega | exact bnd_up (by assumption) (by omega) (by omega)) | fail "q8") (by first | (first | assumption | omega | exact bnd_up (by assumption) (by omega) (by omega)) | fail "q8")) (cwV 1 hts gL_tiltOf_X8_tiltOf rfl rfl rfl (by decide +kernel) ⟨Nat.le_of_ble_eq_true rfl, Nat.le_of_ble_eq_true rfl⟩) ⟨xB_blind, va_recv hK hP (ci := 10) (q0 := 0) rfl rfl, hpre _⟩ rfl rfl hl.1 rfl (lv_room (Nat.le_of_ble_eq_true rfl)) dL_tiltOf_4 ⟨Nat.le_of_ble_eq_true rfl, Nat.le_of_ble_eq_true rfl⟩) (fun (u : Unit) => [(aR, .inr (10, [.ref aG, .ref aP, .ref aH, .ref aY, .ref aT, .ref aS, .ref aF, .ref aX, .int (iI pr), .int (iI tk), .int (iI tol), .int (iI hou)])), (aH, .inr (4, [.ref aHf, .ref aHl, .ref aHm, .ref aHr, .ref aHp, .int (iI bu)])), (aHf, .inl (gI g, 8, .inl (ar fi))), (aHl, .inl (gI g, 8, .inl (ar la))), (aG, .inr (3, [.ref aGn, .ref aGw, .ref aGs, .int (iI kn)])), (aGs, .inl (gI g, 200, .inl (ar sk))), (aO, .inl (gl.1, 1, .inr (.inl lo)))]) (fun (u : Unit) => ([(aR, .inr (10, [.ref aG, .ref aP, .ref aH, .ref aY, .ref aT, .ref aS, .ref aF, .ref aX, .int (iI pr), .int (iI tk), .int (iI tol), .int (iI hou)])), (aH, .inr (4, [.ref aHf, .ref aHl, .ref aHm, .ref aHr, .ref aHp, .int (iI bu)])), (aHf, .inl (gI g, 8, .inl (ar fi))), (aHl, .inl (gI g, 8, .inl (ar la))), (aG, .inr (3, [.ref aGn, .ref aGw, .ref aGs, .int (iI kn)])), (aGs, .inl (gI g, 200, .inl (ar sk))), (aO, .inl (gl.1, 1, .inr (.inl lo)))] : va_W)) rfl rfl (by decide) (fun _ => rfl) (fun _ => rfl) rfl (fun E ce q9 u H locs hXP hPX hP hD hS hcell hv9 hcl => ?_) (fun u v_1 H locs hv_1 pv_1 hP hD hS => ?_)
    · skip
      have hP : va_P (gD g) vwCl [(aR, .inr (10, [.ref aG, .ref aP, .ref aH, .ref aY, .ref aT, .ref aS, .ref aF, .ref aX, .int (iI pr), .int (iI tk), .int (iI tol), .int (iI hou)])), (aH, .inr (4, [.ref aHf, .ref aHl, .ref aHm, .ref aHr, .ref aHp, .int (iI bu)])), (aHf, .inl (gI g, 8, .inl (ar fi))), (aHl, .inl (gI g, 8, .inl (ar la))), (aG, .inr (3, [.ref aGn, .ref aGw, .ref aGs, .int (iI kn)])), (aGs, .inl (gI g, 200, .inl (ar sk))), (aO, .inl (gl.1, 1, .inr (.inl lo)))] H := hP
      have hD : va_D A [(aR, .inr (10, [.ref aG, .ref aP, .ref aH, .ref aY, .ref aT, .ref aS, .ref aF, .ref aX, .int (iI pr), .int (iI tk), .int (iI tol), .int (iI hou)])), (aH, .inr (4, [.ref aHf, .ref aHl, .ref aHm, .ref aHr, .ref aHp, .int (iI bu)])), (aHf, .inl (gI g, 8, .inl (ar fi))), (aHl, .inl (gI g, 8, .inl (ar la))), (aG, .inr (3, [.ref aGn, .ref aGw, .ref aGs, .int (iI kn)])), (aGs, .inl (gI g, 200, .inl (ar sk))), (aO, .inl (gl.1, 1, .inr (.inl lo)))] := hD
      obtain ⟨hE, hp⟩ := hPX
      have hp : rgT bu h0 = 1 := hp
      subst hE
      refine vx_catch (E := "java/lang/IndexOutOfBoundsException") (name := "java/lang/IndexOutOfBoundsException") hown [] ⟨0, 9, 12, 24⟩ [] (by rw [htab]; rfl) (fun z hz => by cases hz) (by decide) (by decide) (hts (.classLink RL 24 "java/lang/IndexOutOfBoundsException") (List.mem_of_getElem? (i := 1) rfl)) (va_Nw.use rfl (hC.2.2.2.2.2.2.2.2.2.2.1 "java/lang/IndexOutOfBoundsException" (List.mem_of_getElem? (i := 2) rfl))) hcell hv9 hcl ?_
      refine lv_astore_n (lv' := [(3, .ref q9), (0, .ref aR), (1, .int (iI h0)), (2, .ref aO)]) hx hb dL_tiltOf_12 rfl hl (by decide) rfl (fun ls hl => ?_)
      refine x_iconst hx hb dL_tiltOf_13 ?_
      rw [hQ9]
      exact x_iret hx hb hr hlocks hP hD hS (S := (Nat → Int64)) rfl dL_tiltOf_14 lo (by
          first
          | (
             first | omega | (subst_vars; omega))
          | fail "q9") (by
          first
          | (
             intro h0
             first | (exfalso; omega) | ((try dsimp only); rw [zl_up]; subst_vars; rfl) | ((try dsimp only); rw [zl_up]; congr 1))
          | fail "q9") rfl (Nat.le_of_ble_eq_true rfl) (Nat.le_of_ble_eq_true rfl)
    · skip
      have hP : va_P (gD g) vwCl [(aR, .inr (10, [.ref aG, .ref aP, .ref aH, .ref aY, .ref aT, .ref aS, .ref aF, .ref aX, .int (iI pr), .int (iI tk), .int (iI tol), .int (iI hou)])), (aH, .inr (4, [.ref aHf, .ref aHl, .ref aHm, .ref aHr, .ref aHp, .int (iI bu)])), (aHf, .inl (gI g, 8, .inl (ar fi))), (aHl, .inl (gI g, 8, .inl (ar la))), (aG, .inr (3, [.ref aGn, .ref aGw, .ref aGs, .int (iI kn)])), (aGs, .inl (gI g, 200, .inl (ar sk))), (aO, .inl (gl.1, 1, .inr (.inl lo)))] H := hP
      have hD : va_D A [(aR, .inr (10, [.ref aG, .ref aP, .ref aH, .ref aY, .ref aT, .ref aS, .ref aF, .ref aX, .int (iI pr), .int (iI tk), .int (iI tol), .int (iI hou)])), (aH, .inr (4, [.ref aHf, .ref aHl, .ref aHm, .ref aHr, .ref aHp, .int (iI bu)])), (aHf, .inl (gI g, 8, .inl (ar fi))), (aHl, .inl (gI g, 8, .inl (ar la))), (aG, .inr (3, [.ref aGn, .ref aGw, .ref aGs, .int (iI kn)])), (aGs, .inl (gI g, 200, .inl (ar sk))), (aO, .inl (gl.1, 1, .inr (.inl lo)))] := hD
      have hv_1 : v_1 = mostF sk fi la h0 - mnI sk (fi h0) (mostF sk fi la h0) (la h0 - fi h0 + 1) := hv_1
      obtain ⟨tv_1, pv_1⟩ := pv_1
      have tv_1 : rgT bu h0 = 0 := tv_1
      refine x_i2z hx hb dL_tiltOf_7 ?_
      refine va_last hx hb hL.1 hP hD hS 6 0 rfl rfl zl_in dL_tiltOf_8 (fun H locs hP hD hS => ?_)
      have hP : va_P (gD g) vwCl [(aR, .inr (10, [.ref aG, .ref aP, .ref aH, .ref aY, .ref aT, .ref aS, .ref aF, .ref aX, .int (iI pr), .int (iI tk), .int (iI tol), .int (iI hou)])), (aH, .inr (4, [.ref aHf, .ref aHl, .ref aHm, .ref aHr, .ref aHp, .int (iI bu)])), (aHf, .inl (gI g, 8, .inl (ar fi))), (aHl, .inl (gI g, 8, .inl (ar la))), (aG, .inr (3, [.ref aGn, .ref aGw, .ref aGs, .int (iI kn)])), (aGs, .inl (gI g, 200, .inl (ar sk))), (aO, .inl (gl.1, 1, .inr (.inl (vp_updL lo (iI 0).toNatClampNeg (zL v_1)))))] H := hP
      have hD : va_D A [(aR, .inr (10, [.ref aG, .ref aP, .ref aH, .ref aY, .ref aT, .ref aS, .ref aF, .ref aX, .int (iI pr), .int (iI tk), .int (iI tol), .int (iI hou)])), (aH, .inr (4, [.ref aHf, .ref aHl, .ref aHm, .ref aHr, .ref aHp, .int (iI bu)])), (aHf, .inl (gI g, 8, .inl (ar fi))), (aHl, .inl (gI g, 8, .inl (ar la))), (aG, .inr (3, [.ref aGn, .ref aGw, .ref aGs, .int (iI kn)])), (aGs, .inl (gI g, 200, .inl (ar sk))), (aO, .inl (gl.1, 1, .inr (.inl (vp_updL lo (iI 0).toNatClampNeg (zL v_1)))))] := hD
      refine lv_goto (tgt := 15) hx hb dL_tiltOf_9 (by decide) ?_
      refine x_iconst hx hb dL_tiltOf_15 ?_
      rw [hQ9]
      exact x_iret hx hb hr hlocks hP hD hS (S := (Nat → Int64)) rfl dL_tiltOf_16 (vp_updL lo (iI 0).toNatClampNeg (zL v_1)) (by
          first
          | (
             first | omega | (subst_vars; omega))
          | fail "q9") (by
          first
          | (
             intro h0
             first | (exfalso; omega) | ((try dsimp only); rw [zl_up]; subst_vars; rfl) | ((try dsimp only); rw [zl_up]; congr 1))
          | fail "q9") rfl (Nat.le_of_ble_eq_true rfl) (Nat.le_of_ble_eq_true rfl)
  rw [hH, hlo, hQ9] at goal_
  exact goal_

set_option maxHeartbeats 4000000 in
set_option maxRecDepth 100000 in
theorem c_L_claimOf (l : Launch) (hflags : l.stackTraces = false) (g : xg) (gl : ClassId × ClassId) (sz : Nat) (aR aG aP aH aY aT aS aF aX aHf aHl aHm aHr aHp aGn aGw aGs aO : Nat) (pr tk tol hou bu kn h0 : Int) (fi la sk li ra pa : Int → Int) (lo : Nat → Int64) (hkn : 0 ≤ kn ∧ kn ≤ 200) (hbu : 0 ≤ bu ∧ bu ≤ 8) (hb_sk : bnd sk 0 500000) (hb_fi : bnd fi 0 199) (hb_la : bnd la 0 199) (hb_li : bnd li 0 100) (hb_ra : bnd ra 0 50) (hb_pa : bnd pa 0 100000000) (hfl : ∀ h : Int, 0 ≤ h → h < bu → fi h ≤ la h) (hlk : ∀ h : Int, 0 ≤ h → h < bu → la h < kn) (hpa : ∀ h : Int, 0 ≤ h → h < bu → 0 ≤ pa h ∧ pa h ≤ mx 0 (mostF sk fi la h - li h) * ra h) (hr_h0 : iR h0) : Met l yL_claimOf wsL_claimOf { frames := 8, cells := 1, slots := 6, locals := 134 } (va_Pc [.ref aR, .int (iI h0), .ref aO] (xBL g gl [(aR, .inr (10, [.ref aG, .ref aP, .ref aH, .ref aY, .ref aT, .ref aS, .ref aF, .ref aX, .int (iI pr), .int (iI tk), .int (iI tol), .int (iI hou)])), (aH, .inr (4, [.ref aHf, .ref aHl, .ref aHm, .ref aHr, .ref aHp, .int (iI bu)])), (aHf, .inl (gI g, 8, .inl (ar fi))), (aHl, .inl (gI g, 8, .inl (ar la))), (aG, .inr (3, [.ref aGn, .ref aGw, .ref aGs, .int (iI kn)])), (aGs, .inl (gI g, 200, .inl (ar sk))), (aHm, .inl (gI g, 8, .inl (ar li))), (aHr, .inl (gI g, 8, .inl (ar ra))), (aHp, .inl (gI g, 8, .inl (ar pa))), (aO, .inl (gl.1, 1, .inr (.inl lo)))] sz)) (va_Qi (fun r u => r = iI ((fun (u : (Nat → Int64)) => rgT bu h0) u) ∧ (fun (u : (Nat → Int64)) => (rgT bu h0 = 0 → u 0 = zL (owedF sk fi la li ra pa h0))) u) (fun u t => xE g (va_A [(aR, .inr (10, [.ref aG, .ref aP, .ref aH, .ref aY, .ref aT, .ref aS, .ref aF, .ref aX, .int (iI pr), .int (iI tk), .int (iI tol), .int (iI hou)])), (aH, .inr (4, [.ref aHf, .ref aHl, .ref aHm, .ref aHr, .ref aHp, .int (iI bu)])), (aHf, .inl (gI g, 8, .inl (ar fi))), (aHl, .inl (gI g, 8, .inl (ar la))), (aG, .inr (3, [.ref aGn, .ref aGw, .ref aGs, .int (iI kn)])), (aGs, .inl (gI g, 200, .inl (ar sk))), (aHm, .inl (gI g, 8, .inl (ar li))), (aHr, .inl (gI g, 8, .inl (ar ra))), (aHp, .inl (gI g, 8, .inl (ar pa))), (aO, .inl (gl.1, 1, .inr (.inl lo)))] sz) ((fun (u : (Nat → Int64)) => [(aR, .inr (10, [.ref aG, .ref aP, .ref aH, .ref aY, .ref aT, .ref aS, .ref aF, .ref aX, .int (iI pr), .int (iI tk), .int (iI tol), .int (iI hou)])), (aH, .inr (4, [.ref aHf, .ref aHl, .ref aHm, .ref aHr, .ref aHp, .int (iI bu)])), (aHf, .inl (gI g, 8, .inl (ar fi))), (aHl, .inl (gI g, 8, .inl (ar la))), (aG, .inr (3, [.ref aGn, .ref aGw, .ref aGs, .int (iI kn)])), (aGs, .inl (gI g, 200, .inl (ar sk))), (aHm, .inl (gI g, 8, .inl (ar li))), (aHr, .inl (gI g, 8, .inl (ar ra))), (aHp, .inl (gI g, 8, .inl (ar pa))), (aO, .inl (gl.1, 1, .inr (.inl u)))]) u) t) (va_A [(aR, .inr (10, [.ref aG, .ref aP, .ref aH, .ref aY, .ref aT, .ref aS, .ref aF, .ref aX, .int (iI pr), .int (iI tk), .int (iI tol), .int (iI hou)])), (aH, .inr (4, [.ref aHf, .ref aHl, .ref aHm, .ref aHr, .ref aHp, .int (iI bu)])), (aHf, .inl (gI g, 8, .inl (ar fi))), (aHl, .inl (gI g, 8, .inl (ar la))), (aG, .inr (3, [.ref aGn, .ref aGw, .ref aGs, .int (iI kn)])), (aGs, .inl (gI g, 200, .inl (ar sk))), (aHm, .inl (gI g, 8, .inl (ar li))), (aHr, .inl (gI g, 8, .inl (ar ra))), (aHp, .inl (gI g, 8, .inl (ar pa))), (aO, .inl (gl.1, 1, .inr (.inl lo)))] sz)) 1 6 (va_A [(aR, .inr (10, [.ref aG, .ref aP, .ref aH, .ref aY, .ref aT, .ref aS, .ref aF, .ref aX, .int (iI pr), .int (iI tk), .int (iI tol), .int (iI hou)])), (aH, .inr (4, [.ref aHf, .ref aHl, .ref aHm, .ref aHr, .ref aHp, .int (iI bu)])), (aHf, .inl (gI g, 8, .inl (ar fi))), (aHl, .inl (gI g, 8, .inl (ar la))), (aG, .inr (3, [.ref aGn, .ref aGw, .ref aGs, .int (iI kn)])), (aGs, .inl (gI g, 200, .inl (ar sk))), (aHm, .inl (gI g, 8, .inl (ar li))), (aHr, .inl (gI g, 8, .inl (ar ra))), (aHp, .inl (gI g, 8, .inl (ar pa))), (aO, .inl (gl.1, 1, .inr (.inl lo)))] sz) := by
  refine x_enterH (y := yL_claimOf) (ws := wsL_claimOf) (g := g) (sz := sz) (av := [.ref aR, .int (iI h0), .ref aO]) (WS := [(aR, .inr (10, [.ref aG, .ref aP, .ref aH, .ref aY, .ref aT, .ref aS, .ref aF, .ref aX, .int (iI pr), .int (iI tk), .int (iI tol), .int (iI hou)])), (aH, .inr (4, [.ref aHf, .ref aHl, .ref aHm, .ref aHr, .ref aHp, .int (iI bu)])), (aHf, .inl (gI g, 8, .inl (ar fi))), (aHl, .inl (gI g, 8, .inl (ar la))), (aG, .inr (3, [.ref aGn, .ref aGw, .ref aGs, .int (iI kn)])), (aGs, .inl (gI g, 200, .inl (ar sk))), (aHm, .inl (gI g, 8, .inl (ar li))), (aHr, .inl (gI g, 8, .inl (ar ra))), (aHp, .inl (gI g, 8, .inl (ar pa))), (aO, .inl (gl.1, 1, .inr (.inl lo)))]) (cc := cL_claimOf) (maxL := 4) (ret := some .int) (Qc := (fun A => (va_Qi (fun r u => r = iI ((fun (u : (Nat → Int64)) => rgT bu h0) u) ∧ (fun (u : (Nat → Int64)) => (rgT bu h0 = 0 → u 0 = zL (owedF sk fi la li ra pa h0))) u) (fun u t => xE g A ((fun (u : (Nat → Int64)) => [(aR, .inr (10, [.ref aG, .ref aP, .ref aH, .ref aY, .ref aT, .ref aS, .ref aF, .ref aX, .int (iI pr), .int (iI tk), .int (iI tol), .int (iI hou)])), (aH, .inr (4, [.ref aHf, .ref aHl, .ref aHm, .ref aHr, .ref aHp, .int (iI bu)])), (aHf, .inl (gI g, 8, .inl (ar fi))), (aHl, .inl (gI g, 8, .inl (ar la))), (aG, .inr (3, [.ref aGn, .ref aGw, .ref aGs, .int (iI kn)])), (aGs, .inl (gI g, 200, .inl (ar sk))), (aHm, .inl (gI g, 8, .inl (ar li))), (aHr, .inl (gI g, 8, .inl (ar ra))), (aHp, .inl (gI g, 8, .inl (ar pa))), (aO, .inl (gl.1, 1, .inr (.inl u)))]) u) t) A))) (by decide) rfl (Nat.le_of_ble_eq_true rfl) ?_
  intro p e s m args below meth c A ls hx hb hr hml hown hts hlocks htab hL hC hP hD hS hA hl
  have hK := hC.1
  have hown : s.vm.findClass RL = some m.cls := hown
  have hl : lv_has ls 4 [(0, .ref aR), (1, .int (iI h0)), (2, .ref aO)] := hl
  obtain ⟨H, hH⟩ : ∃ z, z = s.heap := ⟨_, rfl⟩
  obtain ⟨locs, hlo⟩ : ∃ z : List Loc, z = [] := ⟨_, rfl⟩
  obtain ⟨Q9, hQ9⟩ : ∃ z, z = MQ below (va_Qi (fun r u => r = iI ((fun (u : (Nat → Int64)) => rgT bu h0) u) ∧ (fun (u : (Nat → Int64)) => (rgT bu h0 = 0 → u 0 = zL (owedF sk fi la li ra pa h0))) u) (fun u t => xE g A ((fun (u : (Nat → Int64)) => [(aR, .inr (10, [.ref aG, .ref aP, .ref aH, .ref aY, .ref aT, .ref aS, .ref aF, .ref aX, .int (iI pr), .int (iI tk), .int (iI tol), .int (iI hou)])), (aH, .inr (4, [.ref aHf, .ref aHl, .ref aHm, .ref aHr, .ref aHp, .int (iI bu)])), (aHf, .inl (gI g, 8, .inl (ar fi))), (aHl, .inl (gI g, 8, .inl (ar la))), (aG, .inr (3, [.ref aGn, .ref aGw, .ref aGs, .int (iI kn)])), (aGs, .inl (gI g, 200, .inl (ar sk))), (aHm, .inl (gI g, 8, .inl (ar li))), (aHr, .inl (gI g, 8, .inl (ar ra))), (aHp, .inl (gI g, 8, .inl (ar pa))), (aO, .inl (gl.1, 1, .inr (.inl u)))]) u) t) A) args s 1 6 A := ⟨_, rfl⟩
  have hP : va_P (gD g) vwCl [(aR, .inr (10, [.ref aG, .ref aP, .ref aH, .ref aY, .ref aT, .ref aS, .ref aF, .ref aX, .int (iI pr), .int (iI tk), .int (iI tol), .int (iI hou)])), (aH, .inr (4, [.ref aHf, .ref aHl, .ref aHm, .ref aHr, .ref aHp, .int (iI bu)])), (aHf, .inl (gI g, 8, .inl (ar fi))), (aHl, .inl (gI g, 8, .inl (ar la))), (aG, .inr (3, [.ref aGn, .ref aGw, .ref aGs, .int (iI kn)])), (aGs, .inl (gI g, 200, .inl (ar sk))), (aHm, .inl (gI g, 8, .inl (ar li))), (aHr, .inl (gI g, 8, .inl (ar ra))), (aHp, .inl (gI g, 8, .inl (ar pa))), (aO, .inl (gl.1, 1, .inr (.inl lo)))] H := by rw [hH]; exact hP
  have hS : va_S A s.heap H locs := by rw [hH, hlo]; exact hS
  have goal_ : W p l e { frames := 8, cells := 1, slots := 6, locals := 134 } s m args below meth c H locs 0 0 Q9 (F0 m 0 ls []) := by
    clear hH hlo
    refine lv_aload_n hx hb dL_claimOf_0 rfl (lv_at hl 2 rfl) ?_
    refine x_iconst hx hb dL_claimOf_1 ?_
    refine lv_aload_n hx hb dL_claimOf_2 rfl (lv_at hl 0 rfl) ?_
    refine lv_iload_n hx hb dL_claimOf_3 rfl (lv_at hl 1 rfl) ?_
    refine x_calliX (S := Unit) (SX := Unit) (wc := [(aR, .inr (10, [.ref aG, .ref aP, .ref aH, .ref aY, .ref aT, .ref aS, .ref aF, .ref aX, .int (iI pr), .int (iI tk), .int (iI tol), .int (iI hou)])), (aH, .inr (4, [.ref aHf, .ref aHl, .ref aHm, .ref aHr, .ref aHp, .int (iI bu)])), (aHf, .inl (gI g, 8, .inl (ar fi))), (aHl, .inl (gI g, 8, .inl (ar la))), (aG, .inr (3, [.ref aGn, .ref aGw, .ref aGs, .int (iI kn)])), (aGs, .inl (gI g, 200, .inl (ar sk))), (aHm, .inl (gI g, 8, .inl (ar li))), (aHr, .inl (gI g, 8, .inl (ar ra))), (aHp, .inl (gI g, 8, .inl (ar pa)))]) (wr := [(aO, .inl (gl.1, 1, .inr (.inl lo)))]) hC hP hD hS hA [0, 1, 2, 3, 4, 5, 6, 7, 8] [9] [1, 2, 3, 4, 5, 6, 7, 8, 9, 0] rfl rfl (fun hpre => vx_runV (As := [.int (iI h0)]) (rest := [.int (iI 0), .ref aO]) ⟨hx, hb, hml, hown, hts⟩ (c_X8_claimOf l hflags g H.size aR aG aP aH aY aT aS aF aX aHf aHl aHm aHr aHp aGn aGw aGs pr tk tol hou bu kn h0 fi la sk li ra pa (by first | (first | assumption | omega | exact bnd_up (by assumption) (by omega) (by omega)) | fail "q8") (by first | (first | assumption | omega | exact bnd_up (by assumption) (by omega) (by omega)) | fail "q8") (by first | (first | assumption | omega | exact bnd_up (by assumption) (by omega) (by omega)) | fail "q8") (by first | (first | assumption | omega | exact bnd_up (by assumption) (by omega) (by omega)) | fail "q8") (by first | (first | assumption | omega | exact bnd_up (by assumption) (by omega) (by omega)) | fail "q8") (by first | (first | assumption | omega | exact bnd_up (by assumption) (by omega) (by omega)) | fail "q8") (by first | (first | assumption | omega | exact bnd_up (by assumption) (by omega) (by omega)) | fail "q8") (by first | (first | assumption | omega | exact bnd_up (by assumption) (by omega) (by omega)) | fail "q8") (by first | (first | assumption | omega | exact bnd_up (by assumption) (by omega) (by omega)) | fail "q8") (by first | (first | assumption | omega | exact bnd_up (by assumption) (by omega) (by omega)) | fail "q8") (by first | (first | assumption | omega | exact bnd_up (by assumption) (by omega) (by omega)) | fail "q8") (by first | (first | assumption | omega | exact bnd_up (by assumption) (by omega) (by omega)) | fail "q8")) (cwV 1 hts gL_claimOf_X8_claimOf rfl rfl rfl (by decide +kernel) ⟨Nat.le_of_ble_eq_true rfl, Nat.le_of_ble_eq_true rfl⟩) ⟨xB_blind, va_recv hK hP (ci := 10) (q0 := 0) rfl rfl, hpre _⟩ rfl rfl hl.1 rfl (lv_room (Nat.le_of_ble_eq_true rfl)) dL_claimOf_4 ⟨Nat.le_of_ble_eq_true rfl, Nat.le_of_ble_eq_true rfl⟩) (fun (u : Unit) => [(aR, .inr (10, [.ref aG, .ref aP, .ref aH, .ref aY, .ref aT, .ref aS, .ref aF, .ref aX, .int (iI pr), .int (iI tk), .int (iI tol), .int (iI hou)])), (aH, .inr (4, [.ref aHf, .ref aHl, .ref aHm, .ref aHr, .ref aHp, .int (iI bu)])), (aHf, .inl (gI g, 8, .inl (ar fi))), (aHl, .inl (gI g, 8, .inl (ar la))), (aG, .inr (3, [.ref aGn, .ref aGw, .ref aGs, .int (iI kn)])), (aGs, .inl (gI g, 200, .inl (ar sk))), (aHm, .inl (gI g, 8, .inl (ar li))), (aHr, .inl (gI g, 8, .inl (ar ra))), (aHp, .inl (gI g, 8, .inl (ar pa))), (aO, .inl (gl.1, 1, .inr (.inl lo)))]) (fun (u : Unit) => ([(aR, .inr (10, [.ref aG, .ref aP, .ref aH, .ref aY, .ref aT, .ref aS, .ref aF, .ref aX, .int (iI pr), .int (iI tk), .int (iI tol), .int (iI hou)])), (aH, .inr (4, [.ref aHf, .ref aHl, .ref aHm, .ref aHr, .ref aHp, .int (iI bu)])), (aHf, .inl (gI g, 8, .inl (ar fi))), (aHl, .inl (gI g, 8, .inl (ar la))), (aG, .inr (3, [.ref aGn, .ref aGw, .ref aGs, .int (iI kn)])), (aGs, .inl (gI g, 200, .inl (ar sk))), (aHm, .inl (gI g, 8, .inl (ar li))), (aHr, .inl (gI g, 8, .inl (ar ra))), (aHp, .inl (gI g, 8, .inl (ar pa))), (aO, .inl (gl.1, 1, .inr (.inl lo)))] : va_W)) rfl rfl (by decide) (fun _ => rfl) (fun _ => rfl) rfl (fun E ce q9 u H locs hXP hPX hP hD hS hcell hv9 hcl => ?_) (fun u v_1 H locs hv_1 pv_1 hP hD hS => ?_)
    · skip
      have hP : va_P (gD g) vwCl [(aR, .inr (10, [.ref aG, .ref aP, .ref aH, .ref aY, .ref aT, .ref aS, .ref aF, .ref aX, .int (iI pr), .int (iI tk), .int (iI tol), .int (iI hou)])), (aH, .inr (4, [.ref aHf, .ref aHl, .ref aHm, .ref aHr, .ref aHp, .int (iI bu)])), (aHf, .inl (gI g, 8, .inl (ar fi))), (aHl, .inl (gI g, 8, .inl (ar la))), (aG, .inr (3, [.ref aGn, .ref aGw, .ref aGs, .int (iI kn)])), (aGs, .inl (gI g, 200, .inl (ar sk))), (aHm, .inl (gI g, 8, .inl (ar li))), (aHr, .inl (gI g, 8, .inl (ar ra))), (aHp, .inl (gI g, 8, .inl (ar pa))), (aO, .inl (gl.1, 1, .inr (.inl lo)))] H := hP
      have hD : va_D A [(aR, .inr (10, [.ref aG, .ref aP, .ref aH, .ref aY, .ref aT, .ref aS, .ref aF, .ref aX, .int (iI pr), .int (iI tk), .int (iI tol), .int (iI hou)])), (aH, .inr (4, [.ref aHf, .ref aHl, .ref aHm, .ref aHr, .ref aHp, .int (iI bu)])), (aHf, .inl (gI g, 8, .inl (ar fi))), (aHl, .inl (gI g, 8, .inl (ar la))), (aG, .inr (3, [.ref aGn, .ref aGw, .ref aGs, .int (iI kn)])), (aGs, .inl (gI g, 200, .inl (ar sk))), (aHm, .inl (gI g, 8, .inl (ar li))), (aHr, .inl (gI g, 8, .inl (ar ra))), (aHp, .inl (gI g, 8, .inl (ar pa))), (aO, .inl (gl.1, 1, .inr (.inl lo)))] := hD
      obtain ⟨hE, hp⟩ := hPX
      have hp : rgT bu h0 = 1 := hp
      subst hE
      refine vx_catch (E := "java/lang/IndexOutOfBoundsException") (name := "java/lang/IndexOutOfBoundsException") hown [] ⟨0, 9, 12, 24⟩ [] (by rw [htab]; rfl) (fun z hz => by cases hz) (by decide) (by decide) (hts (.classLink RL 24 "java/lang/IndexOutOfBoundsException") (List.mem_of_getElem? (i := 1) rfl)) (va_Nw.use rfl (hC.2.2.2.2.2.2.2.2.2.2.1 "java/lang/IndexOutOfBoundsException" (List.mem_of_getElem? (i := 2) rfl))) hcell hv9 hcl ?_
      refine lv_astore_n (lv' := [(3, .ref q9), (0, .ref aR), (1, .int (iI h0)), (2, .ref aO)]) hx hb dL_claimOf_12 rfl hl (by decide) rfl (fun ls hl => ?_)
      refine x_iconst hx hb dL_claimOf_13 ?_
      rw [hQ9]
      exact x_iret hx hb hr hlocks hP hD hS (S := (Nat → Int64)) rfl dL_claimOf_14 lo (by
          first
          | (
             first | omega | (subst_vars; omega))
          | fail "q9") (by
          first
          | (
             intro h0
             first | (exfalso; omega) | ((try dsimp only); rw [zl_up]; subst_vars; rfl) | ((try dsimp only); rw [zl_up]; congr 1))
          | fail "q9") rfl (Nat.le_of_ble_eq_true rfl) (Nat.le_of_ble_eq_true rfl)
    · skip
      have hP : va_P (gD g) vwCl [(aR, .inr (10, [.ref aG, .ref aP, .ref aH, .ref aY, .ref aT, .ref aS, .ref aF, .ref aX, .int (iI pr), .int (iI tk), .int (iI tol), .int (iI hou)])), (aH, .inr (4, [.ref aHf, .ref aHl, .ref aHm, .ref aHr, .ref aHp, .int (iI bu)])), (aHf, .inl (gI g, 8, .inl (ar fi))), (aHl, .inl (gI g, 8, .inl (ar la))), (aG, .inr (3, [.ref aGn, .ref aGw, .ref aGs, .int (iI kn)])), (aGs, .inl (gI g, 200, .inl (ar sk))), (aHm, .inl (gI g, 8, .inl (ar li))), (aHr, .inl (gI g, 8, .inl (ar ra))), (aHp, .inl (gI g, 8, .inl (ar pa))), (aO, .inl (gl.1, 1, .inr (.inl lo)))] H := hP
      have hD : va_D A [(aR, .inr (10, [.ref aG, .ref aP, .ref aH, .ref aY, .ref aT, .ref aS, .ref aF, .ref aX, .int (iI pr), .int (iI tk), .int (iI tol), .int (iI hou)])), (aH, .inr (4, [.ref aHf, .ref aHl, .ref aHm, .ref aHr, .ref aHp, .int (iI bu)])), (aHf, .inl (gI g, 8, .inl (ar fi))), (aHl, .inl (gI g, 8, .inl (ar la))), (aG, .inr (3, [.ref aGn, .ref aGw, .ref aGs, .int (iI kn)])), (aGs, .inl (gI g, 200, .inl (ar sk))), (aHm, .inl (gI g, 8, .inl (ar li))), (aHr, .inl (gI g, 8, .inl (ar ra))), (aHp, .inl (gI g, 8, .inl (ar pa))), (aO, .inl (gl.1, 1, .inr (.inl lo)))] := hD
      have hv_1 : v_1 = owedF sk fi la li ra pa h0 := hv_1
      obtain ⟨tv_1, pv_1⟩ := pv_1
      have tv_1 : rgT bu h0 = 0 := tv_1
      refine x_i2z hx hb dL_claimOf_7 ?_
      refine va_last hx hb hL.1 hP hD hS 9 0 rfl rfl zl_in dL_claimOf_8 (fun H locs hP hD hS => ?_)
      have hP : va_P (gD g) vwCl [(aR, .inr (10, [.ref aG, .ref aP, .ref aH, .ref aY, .ref aT, .ref aS, .ref aF, .ref aX, .int (iI pr), .int (iI tk), .int (iI tol), .int (iI hou)])), (aH, .inr (4, [.ref aHf, .ref aHl, .ref aHm, .ref aHr, .ref aHp, .int (iI bu)])), (aHf, .inl (gI g, 8, .inl (ar fi))), (aHl, .inl (gI g, 8, .inl (ar la))), (aG, .inr (3, [.ref aGn, .ref aGw, .ref aGs, .int (iI kn)])), (aGs, .inl (gI g, 200, .inl (ar sk))), (aHm, .inl (gI g, 8, .inl (ar li))), (aHr, .inl (gI g, 8, .inl (ar ra))), (aHp, .inl (gI g, 8, .inl (ar pa))), (aO, .inl (gl.1, 1, .inr (.inl (vp_updL lo (iI 0).toNatClampNeg (zL v_1)))))] H := hP
      have hD : va_D A [(aR, .inr (10, [.ref aG, .ref aP, .ref aH, .ref aY, .ref aT, .ref aS, .ref aF, .ref aX, .int (iI pr), .int (iI tk), .int (iI tol), .int (iI hou)])), (aH, .inr (4, [.ref aHf, .ref aHl, .ref aHm, .ref aHr, .ref aHp, .int (iI bu)])), (aHf, .inl (gI g, 8, .inl (ar fi))), (aHl, .inl (gI g, 8, .inl (ar la))), (aG, .inr (3, [.ref aGn, .ref aGw, .ref aGs, .int (iI kn)])), (aGs, .inl (gI g, 200, .inl (ar sk))), (aHm, .inl (gI g, 8, .inl (ar li))), (aHr, .inl (gI g, 8, .inl (ar ra))), (aHp, .inl (gI g, 8, .inl (ar pa))), (aO, .inl (gl.1, 1, .inr (.inl (vp_updL lo (iI 0).toNatClampNeg (zL v_1)))))] := hD
      refine lv_goto (tgt := 15) hx hb dL_claimOf_9 (by decide) ?_
      refine x_iconst hx hb dL_claimOf_15 ?_
      rw [hQ9]
      exact x_iret hx hb hr hlocks hP hD hS (S := (Nat → Int64)) rfl dL_claimOf_16 (vp_updL lo (iI 0).toNatClampNeg (zL v_1)) (by
          first
          | (
             first | omega | (subst_vars; omega))
          | fail "q9") (by
          first
          | (
             intro h0
             first | (exfalso; omega) | ((try dsimp only); rw [zl_up]; subst_vars; rfl) | ((try dsimp only); rw [zl_up]; congr 1))
          | fail "q9") rfl (Nat.le_of_ble_eq_true rfl) (Nat.le_of_ble_eq_true rfl)
  rw [hH, hlo, hQ9] at goal_
  exact goal_

set_option maxHeartbeats 4000000 in
set_option maxRecDepth 100000 in
theorem c_L_claim (l : Launch) (hflags : l.stackTraces = false) (g : xg) (gl : ClassId × ClassId) (sz : Nat) (aR aG aP aH aY aT aS aF aX aHf aHl aHm aHr aHp aGn aGw aGs aO : Nat) (pr tk tol hou bu kn h0 : Int) (fi la sk li ra pa : Int → Int) (lo : Nat → Int64) (hkn : 0 ≤ kn ∧ kn ≤ 200) (hbu : 0 ≤ bu ∧ bu ≤ 8) (hb_sk : bnd sk 0 500000) (hb_fi : bnd fi 0 199) (hb_la : bnd la 0 199) (hb_li : bnd li 0 100) (hb_ra : bnd ra 0 50) (hb_pa : bnd pa 0 100000000) (hfl : ∀ h : Int, 0 ≤ h → h < bu → fi h ≤ la h) (hlk : ∀ h : Int, 0 ≤ h → h < bu → la h < kn) (hpa : ∀ h : Int, 0 ≤ h → h < bu → 0 ≤ pa h ∧ pa h ≤ mx 0 (mostF sk fi la h - li h) * ra h) (hr_h0 : iR h0) : Met l yL_claim wsL_claim { frames := 8, cells := 2, slots := 12, locals := 135 } (va_Pc [.ref aR, .int (iI h0), .ref aO] (xBL g gl [(aR, .inr (10, [.ref aG, .ref aP, .ref aH, .ref aY, .ref aT, .ref aS, .ref aF, .ref aX, .int (iI pr), .int (iI tk), .int (iI tol), .int (iI hou)])), (aH, .inr (4, [.ref aHf, .ref aHl, .ref aHm, .ref aHr, .ref aHp, .int (iI bu)])), (aHf, .inl (gI g, 8, .inl (ar fi))), (aHl, .inl (gI g, 8, .inl (ar la))), (aG, .inr (3, [.ref aGn, .ref aGw, .ref aGs, .int (iI kn)])), (aGs, .inl (gI g, 200, .inl (ar sk))), (aHm, .inl (gI g, 8, .inl (ar li))), (aHr, .inl (gI g, 8, .inl (ar ra))), (aHp, .inl (gI g, 8, .inl (ar pa))), (aO, .inl (gl.1, 1, .inr (.inl lo)))] sz)) (va_Qi (fun r u => r = iI ((fun (u : (Nat → Int64)) => clT bu h0 (owedF sk fi la li ra pa h0)) u) ∧ (fun (u : (Nat → Int64)) => (clT bu h0 (owedF sk fi la li ra pa h0) = 0 → u 0 = zL (owedF sk fi la li ra pa h0))) u) (fun u t => xE g (va_A [(aR, .inr (10, [.ref aG, .ref aP, .ref aH, .ref aY, .ref aT, .ref aS, .ref aF, .ref aX, .int (iI pr), .int (iI tk), .int (iI tol), .int (iI hou)])), (aH, .inr (4, [.ref aHf, .ref aHl, .ref aHm, .ref aHr, .ref aHp, .int (iI bu)])), (aHf, .inl (gI g, 8, .inl (ar fi))), (aHl, .inl (gI g, 8, .inl (ar la))), (aG, .inr (3, [.ref aGn, .ref aGw, .ref aGs, .int (iI kn)])), (aGs, .inl (gI g, 200, .inl (ar sk))), (aHm, .inl (gI g, 8, .inl (ar li))), (aHr, .inl (gI g, 8, .inl (ar ra))), (aHp, .inl (gI g, 8, .inl (ar pa))), (aO, .inl (gl.1, 1, .inr (.inl lo)))] sz) ((fun (u : (Nat → Int64)) => [(aR, .inr (10, [.ref aG, .ref aP, .ref aH, .ref aY, .ref aT, .ref aS, .ref aF, .ref aX, .int (iI pr), .int (iI tk), .int (iI tol), .int (iI hou)])), (aH, .inr (4, [.ref aHf, .ref aHl, .ref aHm, .ref aHr, .ref aHp, .int (iI bu)])), (aHf, .inl (gI g, 8, .inl (ar fi))), (aHl, .inl (gI g, 8, .inl (ar la))), (aG, .inr (3, [.ref aGn, .ref aGw, .ref aGs, .int (iI kn)])), (aGs, .inl (gI g, 200, .inl (ar sk))), (aHm, .inl (gI g, 8, .inl (ar li))), (aHr, .inl (gI g, 8, .inl (ar ra))), (aHp, .inl (gI g, 8, .inl (ar (if clT bu h0 (owedF sk fi la li ra pa h0) = 0 then (up pa h0 (pa h0 + owedF sk fi la li ra pa h0)) else pa)))), (aO, .inl (gl.1, 1, .inr (.inl u)))]) u) t) (va_A [(aR, .inr (10, [.ref aG, .ref aP, .ref aH, .ref aY, .ref aT, .ref aS, .ref aF, .ref aX, .int (iI pr), .int (iI tk), .int (iI tol), .int (iI hou)])), (aH, .inr (4, [.ref aHf, .ref aHl, .ref aHm, .ref aHr, .ref aHp, .int (iI bu)])), (aHf, .inl (gI g, 8, .inl (ar fi))), (aHl, .inl (gI g, 8, .inl (ar la))), (aG, .inr (3, [.ref aGn, .ref aGw, .ref aGs, .int (iI kn)])), (aGs, .inl (gI g, 200, .inl (ar sk))), (aHm, .inl (gI g, 8, .inl (ar li))), (aHr, .inl (gI g, 8, .inl (ar ra))), (aHp, .inl (gI g, 8, .inl (ar pa))), (aO, .inl (gl.1, 1, .inr (.inl lo)))] sz)) 2 12 (va_A [(aR, .inr (10, [.ref aG, .ref aP, .ref aH, .ref aY, .ref aT, .ref aS, .ref aF, .ref aX, .int (iI pr), .int (iI tk), .int (iI tol), .int (iI hou)])), (aH, .inr (4, [.ref aHf, .ref aHl, .ref aHm, .ref aHr, .ref aHp, .int (iI bu)])), (aHf, .inl (gI g, 8, .inl (ar fi))), (aHl, .inl (gI g, 8, .inl (ar la))), (aG, .inr (3, [.ref aGn, .ref aGw, .ref aGs, .int (iI kn)])), (aGs, .inl (gI g, 200, .inl (ar sk))), (aHm, .inl (gI g, 8, .inl (ar li))), (aHr, .inl (gI g, 8, .inl (ar ra))), (aHp, .inl (gI g, 8, .inl (ar pa))), (aO, .inl (gl.1, 1, .inr (.inl lo)))] sz) := by
  refine x_enterH (y := yL_claim) (ws := wsL_claim) (g := g) (sz := sz) (av := [.ref aR, .int (iI h0), .ref aO]) (WS := [(aR, .inr (10, [.ref aG, .ref aP, .ref aH, .ref aY, .ref aT, .ref aS, .ref aF, .ref aX, .int (iI pr), .int (iI tk), .int (iI tol), .int (iI hou)])), (aH, .inr (4, [.ref aHf, .ref aHl, .ref aHm, .ref aHr, .ref aHp, .int (iI bu)])), (aHf, .inl (gI g, 8, .inl (ar fi))), (aHl, .inl (gI g, 8, .inl (ar la))), (aG, .inr (3, [.ref aGn, .ref aGw, .ref aGs, .int (iI kn)])), (aGs, .inl (gI g, 200, .inl (ar sk))), (aHm, .inl (gI g, 8, .inl (ar li))), (aHr, .inl (gI g, 8, .inl (ar ra))), (aHp, .inl (gI g, 8, .inl (ar pa))), (aO, .inl (gl.1, 1, .inr (.inl lo)))]) (cc := cL_claim) (maxL := 4) (ret := some .int) (Qc := (fun A => (va_Qi (fun r u => r = iI ((fun (u : (Nat → Int64)) => clT bu h0 (owedF sk fi la li ra pa h0)) u) ∧ (fun (u : (Nat → Int64)) => (clT bu h0 (owedF sk fi la li ra pa h0) = 0 → u 0 = zL (owedF sk fi la li ra pa h0))) u) (fun u t => xE g A ((fun (u : (Nat → Int64)) => [(aR, .inr (10, [.ref aG, .ref aP, .ref aH, .ref aY, .ref aT, .ref aS, .ref aF, .ref aX, .int (iI pr), .int (iI tk), .int (iI tol), .int (iI hou)])), (aH, .inr (4, [.ref aHf, .ref aHl, .ref aHm, .ref aHr, .ref aHp, .int (iI bu)])), (aHf, .inl (gI g, 8, .inl (ar fi))), (aHl, .inl (gI g, 8, .inl (ar la))), (aG, .inr (3, [.ref aGn, .ref aGw, .ref aGs, .int (iI kn)])), (aGs, .inl (gI g, 200, .inl (ar sk))), (aHm, .inl (gI g, 8, .inl (ar li))), (aHr, .inl (gI g, 8, .inl (ar ra))), (aHp, .inl (gI g, 8, .inl (ar (if clT bu h0 (owedF sk fi la li ra pa h0) = 0 then (up pa h0 (pa h0 + owedF sk fi la li ra pa h0)) else pa)))), (aO, .inl (gl.1, 1, .inr (.inl u)))]) u) t) A))) (by decide) rfl (Nat.le_of_ble_eq_true rfl) ?_
  intro p e s m args below meth c A ls hx hb hr hml hown hts hlocks htab hL hC hP hD hS hA hl
  have hK := hC.1
  have hown : s.vm.findClass RL = some m.cls := hown
  have hl : lv_has ls 4 [(0, .ref aR), (1, .int (iI h0)), (2, .ref aO)] := hl
  obtain ⟨H, hH⟩ : ∃ z, z = s.heap := ⟨_, rfl⟩
  obtain ⟨locs, hlo⟩ : ∃ z : List Loc, z = [] := ⟨_, rfl⟩
  obtain ⟨Q9, hQ9⟩ : ∃ z, z = MQ below (va_Qi (fun r u => r = iI ((fun (u : (Nat → Int64)) => clT bu h0 (owedF sk fi la li ra pa h0)) u) ∧ (fun (u : (Nat → Int64)) => (clT bu h0 (owedF sk fi la li ra pa h0) = 0 → u 0 = zL (owedF sk fi la li ra pa h0))) u) (fun u t => xE g A ((fun (u : (Nat → Int64)) => [(aR, .inr (10, [.ref aG, .ref aP, .ref aH, .ref aY, .ref aT, .ref aS, .ref aF, .ref aX, .int (iI pr), .int (iI tk), .int (iI tol), .int (iI hou)])), (aH, .inr (4, [.ref aHf, .ref aHl, .ref aHm, .ref aHr, .ref aHp, .int (iI bu)])), (aHf, .inl (gI g, 8, .inl (ar fi))), (aHl, .inl (gI g, 8, .inl (ar la))), (aG, .inr (3, [.ref aGn, .ref aGw, .ref aGs, .int (iI kn)])), (aGs, .inl (gI g, 200, .inl (ar sk))), (aHm, .inl (gI g, 8, .inl (ar li))), (aHr, .inl (gI g, 8, .inl (ar ra))), (aHp, .inl (gI g, 8, .inl (ar (if clT bu h0 (owedF sk fi la li ra pa h0) = 0 then (up pa h0 (pa h0 + owedF sk fi la li ra pa h0)) else pa)))), (aO, .inl (gl.1, 1, .inr (.inl u)))]) u) t) A) args s 2 12 A := ⟨_, rfl⟩
  have hP : va_P (gD g) vwCl [(aR, .inr (10, [.ref aG, .ref aP, .ref aH, .ref aY, .ref aT, .ref aS, .ref aF, .ref aX, .int (iI pr), .int (iI tk), .int (iI tol), .int (iI hou)])), (aH, .inr (4, [.ref aHf, .ref aHl, .ref aHm, .ref aHr, .ref aHp, .int (iI bu)])), (aHf, .inl (gI g, 8, .inl (ar fi))), (aHl, .inl (gI g, 8, .inl (ar la))), (aG, .inr (3, [.ref aGn, .ref aGw, .ref aGs, .int (iI kn)])), (aGs, .inl (gI g, 200, .inl (ar sk))), (aHm, .inl (gI g, 8, .inl (ar li))), (aHr, .inl (gI g, 8, .inl (ar ra))), (aHp, .inl (gI g, 8, .inl (ar pa))), (aO, .inl (gl.1, 1, .inr (.inl lo)))] H := by rw [hH]; exact hP
  have hS : va_S A s.heap H locs := by rw [hH, hlo]; exact hS
  have goal_ : W p l e { frames := 8, cells := 2, slots := 12, locals := 135 } s m args below meth c H locs 0 0 Q9 (F0 m 0 ls []) := by
    clear hH hlo
    refine lv_aload_n hx hb dL_claim_0 rfl (lv_at hl 2 rfl) ?_
    refine x_iconst hx hb dL_claim_1 ?_
    refine lv_aload_n hx hb dL_claim_2 rfl (lv_at hl 0 rfl) ?_
    refine lv_iload_n hx hb dL_claim_3 rfl (lv_at hl 1 rfl) ?_
    refine x_calliX (S := Unit) (SX := Unit) (wc := [(aR, .inr (10, [.ref aG, .ref aP, .ref aH, .ref aY, .ref aT, .ref aS, .ref aF, .ref aX, .int (iI pr), .int (iI tk), .int (iI tol), .int (iI hou)])), (aH, .inr (4, [.ref aHf, .ref aHl, .ref aHm, .ref aHr, .ref aHp, .int (iI bu)])), (aHf, .inl (gI g, 8, .inl (ar fi))), (aHl, .inl (gI g, 8, .inl (ar la))), (aG, .inr (3, [.ref aGn, .ref aGw, .ref aGs, .int (iI kn)])), (aGs, .inl (gI g, 200, .inl (ar sk))), (aHm, .inl (gI g, 8, .inl (ar li))), (aHr, .inl (gI g, 8, .inl (ar ra))), (aHp, .inl (gI g, 8, .inl (ar pa)))]) (wr := [(aO, .inl (gl.1, 1, .inr (.inl lo)))]) hC hP hD hS hA [0, 1, 2, 3, 4, 5, 6, 7, 8] [9] [1, 2, 3, 4, 5, 6, 7, 8, 9, 0] rfl rfl (fun hpre => vx_runV (As := [.int (iI h0)]) (rest := [.int (iI 0), .ref aO]) ⟨hx, hb, hml, hown, hts⟩ (c_X8_claim l hflags g H.size aR aG aP aH aY aT aS aF aX aHf aHl aHm aHr aHp aGn aGw aGs pr tk tol hou bu kn h0 fi la sk li ra pa (by first | (first | assumption | omega | exact bnd_up (by assumption) (by omega) (by omega)) | fail "q8") (by first | (first | assumption | omega | exact bnd_up (by assumption) (by omega) (by omega)) | fail "q8") (by first | (first | assumption | omega | exact bnd_up (by assumption) (by omega) (by omega)) | fail "q8") (by first | (first | assumption | omega | exact bnd_up (by assumption) (by omega) (by omega)) | fail "q8") (by first | (first | assumption | omega | exact bnd_up (by assumption) (by omega) (by omega)) | fail "q8") (by first | (first | assumption | omega | exact bnd_up (by assumption) (by omega) (by omega)) | fail "q8") (by first | (first | assumption | omega | exact bnd_up (by assumption) (by omega) (by omega)) | fail "q8") (by first | (first | assumption | omega | exact bnd_up (by assumption) (by omega) (by omega)) | fail "q8") (by first | (first | assumption | omega | exact bnd_up (by assumption) (by omega) (by omega)) | fail "q8") (by first | (first | assumption | omega | exact bnd_up (by assumption) (by omega) (by omega)) | fail "q8") (by first | (first | assumption | omega | exact bnd_up (by assumption) (by omega) (by omega)) | fail "q8") (by first | (first | assumption | omega | exact bnd_up (by assumption) (by omega) (by omega)) | fail "q8")) (cwV 1 hts gL_claim_X8_claim rfl rfl rfl (by decide +kernel) ⟨Nat.le_of_ble_eq_true rfl, Nat.le_of_ble_eq_true rfl⟩) ⟨xB_blind, va_recv hK hP (ci := 10) (q0 := 0) rfl rfl, hpre _⟩ rfl rfl hl.1 rfl (lv_room (Nat.le_of_ble_eq_true rfl)) dL_claim_4 ⟨Nat.le_of_ble_eq_true rfl, Nat.le_of_ble_eq_true rfl⟩) (fun (u : Unit) => [(aR, .inr (10, [.ref aG, .ref aP, .ref aH, .ref aY, .ref aT, .ref aS, .ref aF, .ref aX, .int (iI pr), .int (iI tk), .int (iI tol), .int (iI hou)])), (aH, .inr (4, [.ref aHf, .ref aHl, .ref aHm, .ref aHr, .ref aHp, .int (iI bu)])), (aHf, .inl (gI g, 8, .inl (ar fi))), (aHl, .inl (gI g, 8, .inl (ar la))), (aG, .inr (3, [.ref aGn, .ref aGw, .ref aGs, .int (iI kn)])), (aGs, .inl (gI g, 200, .inl (ar sk))), (aHm, .inl (gI g, 8, .inl (ar li))), (aHr, .inl (gI g, 8, .inl (ar ra))), (aHp, .inl (gI g, 8, .inl (ar (up pa h0 (pa h0 + owedF sk fi la li ra pa h0))))), (aO, .inl (gl.1, 1, .inr (.inl lo)))]) (fun (u : Unit) => ([(aR, .inr (10, [.ref aG, .ref aP, .ref aH, .ref aY, .ref aT, .ref aS, .ref aF, .ref aX, .int (iI pr), .int (iI tk), .int (iI tol), .int (iI hou)])), (aH, .inr (4, [.ref aHf, .ref aHl, .ref aHm, .ref aHr, .ref aHp, .int (iI bu)])), (aHf, .inl (gI g, 8, .inl (ar fi))), (aHl, .inl (gI g, 8, .inl (ar la))), (aG, .inr (3, [.ref aGn, .ref aGw, .ref aGs, .int (iI kn)])), (aGs, .inl (gI g, 200, .inl (ar sk))), (aHm, .inl (gI g, 8, .inl (ar li))), (aHr, .inl (gI g, 8, .inl (ar ra))), (aHp, .inl (gI g, 8, .inl (ar pa))), (aO, .inl (gl.1, 1, .inr (.inl lo)))] : va_W)) rfl rfl (by decide) (fun _ => rfl) (fun _ => rfl) rfl (fun E ce q9 u H locs hXP hPX hP hD hS hcell hv9 hcl => ?_) (fun u v_1 H locs hv_1 pv_1 hP hD hS => ?_)
    · skip
      have hP : va_P (gD g) vwCl [(aR, .inr (10, [.ref aG, .ref aP, .ref aH, .ref aY, .ref aT, .ref aS, .ref aF, .ref aX, .int (iI pr), .int (iI tk), .int (iI tol), .int (iI hou)])), (aH, .inr (4, [.ref aHf, .ref aHl, .ref aHm, .ref aHr, .ref aHp, .int (iI bu)])), (aHf, .inl (gI g, 8, .inl (ar fi))), (aHl, .inl (gI g, 8, .inl (ar la))), (aG, .inr (3, [.ref aGn, .ref aGw, .ref aGs, .int (iI kn)])), (aGs, .inl (gI g, 200, .inl (ar sk))), (aHm, .inl (gI g, 8, .inl (ar li))), (aHr, .inl (gI g, 8, .inl (ar ra))), (aHp, .inl (gI g, 8, .inl (ar pa))), (aO, .inl (gl.1, 1, .inr (.inl lo)))] H := hP
      have hD : va_D A [(aR, .inr (10, [.ref aG, .ref aP, .ref aH, .ref aY, .ref aT, .ref aS, .ref aF, .ref aX, .int (iI pr), .int (iI tk), .int (iI tol), .int (iI hou)])), (aH, .inr (4, [.ref aHf, .ref aHl, .ref aHm, .ref aHr, .ref aHp, .int (iI bu)])), (aHf, .inl (gI g, 8, .inl (ar fi))), (aHl, .inl (gI g, 8, .inl (ar la))), (aG, .inr (3, [.ref aGn, .ref aGw, .ref aGs, .int (iI kn)])), (aGs, .inl (gI g, 200, .inl (ar sk))), (aHm, .inl (gI g, 8, .inl (ar li))), (aHr, .inl (gI g, 8, .inl (ar ra))), (aHp, .inl (gI g, 8, .inl (ar pa))), (aO, .inl (gl.1, 1, .inr (.inl lo)))] := hD
      rcases hPX with ⟨hE, hp⟩ | ⟨hE, hp⟩
      · skip
        have hp : clT bu h0 (owedF sk fi la li ra pa h0) = 1 := hp
        subst hE
        refine vx_catch (E := "java/lang/IndexOutOfBoundsException") (name := "java/lang/IndexOutOfBoundsException") hown [] ⟨0, 9, 12, 24⟩ [⟨0, 9, 15, 77⟩] (by rw [htab]; rfl) (fun z hz => by cases hz) (by decide) (by decide) (hts (.classLink RL 24 "java/lang/IndexOutOfBoundsException") (List.mem_of_getElem? (i := 1) rfl)) (va_Nw.use rfl (hC.2.2.2.2.2.2.2.2.2.2.1 "java/lang/IndexOutOfBoundsException" (List.mem_of_getElem? (i := 2) rfl))) hcell hv9 hcl ?_
        refine lv_astore_n (lv' := [(3, .ref q9), (0, .ref aR), (1, .int (iI h0)), (2, .ref aO)]) hx hb dL_claim_12 rfl hl (by decide) rfl (fun ls hl => ?_)
        refine x_iconst hx hb dL_claim_13 ?_
        have q_2 : (if clT bu h0 (owedF sk fi la li ra pa h0) = 0 then (up pa h0 (pa h0 + owedF sk fi la li ra pa h0)) else pa) = pa := by
          first
          | (
             first | rfl | (rw [if_pos (by omega)]) | (rw [if_neg (by omega)]) | (rw [if_pos (by omega)]; subst_vars; rfl))
          | fail "q9"
        have hw_3 := (congrArg (fun (z0 : Int → Int) => ([(aR, .inr (10, [.ref aG, .ref aP, .ref aH, .ref aY, .ref aT, .ref aS, .ref aF, .ref aX, .int (iI pr), .int (iI tk), .int (iI tol), .int (iI hou)])), (aH, .inr (4, [.ref aHf, .ref aHl, .ref aHm, .ref aHr, .ref aHp, .int (iI bu)])), (aHf, .inl (gI g, 8, .inl (ar fi))), (aHl, .inl (gI g, 8, .inl (ar la))), (aG, .inr (3, [.ref aGn, .ref aGw, .ref aGs, .int (iI kn)])), (aGs, .inl (gI g, 200, .inl (ar sk))), (aHm, .inl (gI g, 8, .inl (ar li))), (aHr, .inl (gI g, 8, .inl (ar ra))), (aHp, .inl (gI g, 8, .inl (ar z0))), (aO, .inl (gl.1, 1, .inr (.inl lo)))] : va_W)) q_2.symm)
        rw [hQ9]
        exact x_iret hx hb hr hlocks hP hD hS (S := (Nat → Int64)) rfl dL_claim_14 lo (by
            first
            | (
               first | omega | (subst_vars; omega))
            | fail "q9") (by
            first
            | (
               intro h0
               first | (exfalso; omega) | ((try dsimp only); rw [zl_up]; subst_vars; rfl) | ((try dsimp only); rw [zl_up]; congr 1))
            | fail "q9") hw_3 (Nat.le_of_ble_eq_true rfl) (Nat.le_of_ble_eq_true rfl)
      · skip
        have hp : clT bu h0 (owedF sk fi la li ra pa h0) = 2 := hp
        subst hE
        refine vx_catch (E := "java/lang/UnsupportedOperationException") (name := "java/lang/UnsupportedOperationException") hown [⟨0, 9, 12, 24⟩] ⟨0, 9, 15, 77⟩ [] (by rw [htab]; rfl) (fun z hz => by rcases List.mem_cons.mp hz with rfl | hz; exact Or.inr ⟨by decide, "java/lang/IndexOutOfBoundsException", (hts (.classLink RL 24 "java/lang/IndexOutOfBoundsException") (List.mem_of_getElem? (i := 1) rfl)), hL.2 ("java/lang/UnsupportedOperationException", "java/lang/IndexOutOfBoundsException") (List.mem_of_getElem? (i := 27) (by decide +kernel))⟩; cases hz) (by decide) (by decide) (hts (.classLink RL 77 "java/lang/UnsupportedOperationException") (List.mem_of_getElem? (i := 2) rfl)) (va_Nw.use rfl (hC.2.2.2.2.2.2.2.2.2.2.1 "java/lang/UnsupportedOperationException" (List.mem_of_getElem? (i := 5) rfl))) hcell hv9 hcl ?_
        refine lv_astore_n (lv' := [(3, .ref q9), (0, .ref aR), (1, .int (iI h0)), (2, .ref aO)]) hx hb dL_claim_15 rfl hl (by decide) rfl (fun ls hl => ?_)
        refine x_iconst hx hb dL_claim_16 ?_
        have q_4 : (if clT bu h0 (owedF sk fi la li ra pa h0) = 0 then (up pa h0 (pa h0 + owedF sk fi la li ra pa h0)) else pa) = pa := by
          first
          | (
             first | rfl | (rw [if_pos (by omega)]) | (rw [if_neg (by omega)]) | (rw [if_pos (by omega)]; subst_vars; rfl))
          | fail "q9"
        have hw_5 := (congrArg (fun (z0 : Int → Int) => ([(aR, .inr (10, [.ref aG, .ref aP, .ref aH, .ref aY, .ref aT, .ref aS, .ref aF, .ref aX, .int (iI pr), .int (iI tk), .int (iI tol), .int (iI hou)])), (aH, .inr (4, [.ref aHf, .ref aHl, .ref aHm, .ref aHr, .ref aHp, .int (iI bu)])), (aHf, .inl (gI g, 8, .inl (ar fi))), (aHl, .inl (gI g, 8, .inl (ar la))), (aG, .inr (3, [.ref aGn, .ref aGw, .ref aGs, .int (iI kn)])), (aGs, .inl (gI g, 200, .inl (ar sk))), (aHm, .inl (gI g, 8, .inl (ar li))), (aHr, .inl (gI g, 8, .inl (ar ra))), (aHp, .inl (gI g, 8, .inl (ar z0))), (aO, .inl (gl.1, 1, .inr (.inl lo)))] : va_W)) q_4.symm)
        rw [hQ9]
        exact x_iret hx hb hr hlocks hP hD hS (S := (Nat → Int64)) rfl dL_claim_17 lo (by
            first
            | (
               first | omega | (subst_vars; omega))
            | fail "q9") (by
            first
            | (
               intro h0
               first | (exfalso; omega) | ((try dsimp only); rw [zl_up]; subst_vars; rfl) | ((try dsimp only); rw [zl_up]; congr 1))
            | fail "q9") hw_5 (Nat.le_of_ble_eq_true rfl) (Nat.le_of_ble_eq_true rfl)
    · skip
      have hP : va_P (gD g) vwCl [(aR, .inr (10, [.ref aG, .ref aP, .ref aH, .ref aY, .ref aT, .ref aS, .ref aF, .ref aX, .int (iI pr), .int (iI tk), .int (iI tol), .int (iI hou)])), (aH, .inr (4, [.ref aHf, .ref aHl, .ref aHm, .ref aHr, .ref aHp, .int (iI bu)])), (aHf, .inl (gI g, 8, .inl (ar fi))), (aHl, .inl (gI g, 8, .inl (ar la))), (aG, .inr (3, [.ref aGn, .ref aGw, .ref aGs, .int (iI kn)])), (aGs, .inl (gI g, 200, .inl (ar sk))), (aHm, .inl (gI g, 8, .inl (ar li))), (aHr, .inl (gI g, 8, .inl (ar ra))), (aHp, .inl (gI g, 8, .inl (ar (up pa h0 (pa h0 + owedF sk fi la li ra pa h0))))), (aO, .inl (gl.1, 1, .inr (.inl lo)))] H := hP
      have hD : va_D A [(aR, .inr (10, [.ref aG, .ref aP, .ref aH, .ref aY, .ref aT, .ref aS, .ref aF, .ref aX, .int (iI pr), .int (iI tk), .int (iI tol), .int (iI hou)])), (aH, .inr (4, [.ref aHf, .ref aHl, .ref aHm, .ref aHr, .ref aHp, .int (iI bu)])), (aHf, .inl (gI g, 8, .inl (ar fi))), (aHl, .inl (gI g, 8, .inl (ar la))), (aG, .inr (3, [.ref aGn, .ref aGw, .ref aGs, .int (iI kn)])), (aGs, .inl (gI g, 200, .inl (ar sk))), (aHm, .inl (gI g, 8, .inl (ar li))), (aHr, .inl (gI g, 8, .inl (ar ra))), (aHp, .inl (gI g, 8, .inl (ar (up pa h0 (pa h0 + owedF sk fi la li ra pa h0))))), (aO, .inl (gl.1, 1, .inr (.inl lo)))] := hD
      have hv_1 : v_1 = owedF sk fi la li ra pa h0 := hv_1
      obtain ⟨tv_1, pv_1⟩ := pv_1
      have tv_1 : clT bu h0 (owedF sk fi la li ra pa h0) = 0 := tv_1
      refine x_i2z hx hb dL_claim_7 ?_
      refine va_last hx hb hL.1 hP hD hS 9 0 rfl rfl zl_in dL_claim_8 (fun H locs hP hD hS => ?_)
      have hP : va_P (gD g) vwCl [(aR, .inr (10, [.ref aG, .ref aP, .ref aH, .ref aY, .ref aT, .ref aS, .ref aF, .ref aX, .int (iI pr), .int (iI tk), .int (iI tol), .int (iI hou)])), (aH, .inr (4, [.ref aHf, .ref aHl, .ref aHm, .ref aHr, .ref aHp, .int (iI bu)])), (aHf, .inl (gI g, 8, .inl (ar fi))), (aHl, .inl (gI g, 8, .inl (ar la))), (aG, .inr (3, [.ref aGn, .ref aGw, .ref aGs, .int (iI kn)])), (aGs, .inl (gI g, 200, .inl (ar sk))), (aHm, .inl (gI g, 8, .inl (ar li))), (aHr, .inl (gI g, 8, .inl (ar ra))), (aHp, .inl (gI g, 8, .inl (ar (up pa h0 (pa h0 + owedF sk fi la li ra pa h0))))), (aO, .inl (gl.1, 1, .inr (.inl (vp_updL lo (iI 0).toNatClampNeg (zL v_1)))))] H := hP
      have hD : va_D A [(aR, .inr (10, [.ref aG, .ref aP, .ref aH, .ref aY, .ref aT, .ref aS, .ref aF, .ref aX, .int (iI pr), .int (iI tk), .int (iI tol), .int (iI hou)])), (aH, .inr (4, [.ref aHf, .ref aHl, .ref aHm, .ref aHr, .ref aHp, .int (iI bu)])), (aHf, .inl (gI g, 8, .inl (ar fi))), (aHl, .inl (gI g, 8, .inl (ar la))), (aG, .inr (3, [.ref aGn, .ref aGw, .ref aGs, .int (iI kn)])), (aGs, .inl (gI g, 200, .inl (ar sk))), (aHm, .inl (gI g, 8, .inl (ar li))), (aHr, .inl (gI g, 8, .inl (ar ra))), (aHp, .inl (gI g, 8, .inl (ar (up pa h0 (pa h0 + owedF sk fi la li ra pa h0))))), (aO, .inl (gl.1, 1, .inr (.inl (vp_updL lo (iI 0).toNatClampNeg (zL v_1)))))] := hD
      refine lv_goto (tgt := 18) hx hb dL_claim_9 (by decide) ?_
      refine x_iconst hx hb dL_claim_18 ?_
      have q_6 : (if clT bu h0 (owedF sk fi la li ra pa h0) = 0 then (up pa h0 (pa h0 + owedF sk fi la li ra pa h0)) else pa) = (up pa h0 (pa h0 + owedF sk fi la li ra pa h0)) := by
        first
        | (
           first | rfl | (rw [if_pos (by omega)]) | (rw [if_neg (by omega)]) | (rw [if_pos (by omega)]; subst_vars; rfl))
        | fail "q9"
      have hw_7 := (congrArg (fun (z0 : Int → Int) => ([(aR, .inr (10, [.ref aG, .ref aP, .ref aH, .ref aY, .ref aT, .ref aS, .ref aF, .ref aX, .int (iI pr), .int (iI tk), .int (iI tol), .int (iI hou)])), (aH, .inr (4, [.ref aHf, .ref aHl, .ref aHm, .ref aHr, .ref aHp, .int (iI bu)])), (aHf, .inl (gI g, 8, .inl (ar fi))), (aHl, .inl (gI g, 8, .inl (ar la))), (aG, .inr (3, [.ref aGn, .ref aGw, .ref aGs, .int (iI kn)])), (aGs, .inl (gI g, 200, .inl (ar sk))), (aHm, .inl (gI g, 8, .inl (ar li))), (aHr, .inl (gI g, 8, .inl (ar ra))), (aHp, .inl (gI g, 8, .inl (ar z0))), (aO, .inl (gl.1, 1, .inr (.inl (vp_updL lo (iI 0).toNatClampNeg (zL v_1)))))] : va_W)) q_6.symm)
      rw [hQ9]
      exact x_iret hx hb hr hlocks hP hD hS (S := (Nat → Int64)) rfl dL_claim_19 (vp_updL lo (iI 0).toNatClampNeg (zL v_1)) (by
          first
          | (
             first | omega | (subst_vars; omega))
          | fail "q9") (by
          first
          | (
             intro h0
             first | (exfalso; omega) | ((try dsimp only); rw [zl_up]; subst_vars; rfl) | ((try dsimp only); rw [zl_up]; congr 1))
          | fail "q9") hw_7 (Nat.le_of_ble_eq_true rfl) (Nat.le_of_ble_eq_true rfl)
  rw [hH, hlo, hQ9] at goal_
  exact goal_

set_option maxHeartbeats 4000000 in
set_option maxRecDepth 100000 in
theorem c_L_paidTo (l : Launch) (hflags : l.stackTraces = false) (g : xg) (gl : ClassId × ClassId) (sz : Nat) (aR aG aP aH aY aT aS aF aX aHf aHl aHm aHr aHp aO : Nat) (pr tk tol hou bu rg : Int) (pa : Int → Int) (lo : Nat → Int64) (hbu : 0 ≤ bu ∧ bu ≤ 8) (hr_rg : iR rg) : Met l yL_paidTo wsL_paidTo { frames := 8, cells := 1, slots := 6, locals := 134 } (va_Pc [.ref aR, .int (iI rg), .ref aO] (xBL g gl [(aR, .inr (10, [.ref aG, .ref aP, .ref aH, .ref aY, .ref aT, .ref aS, .ref aF, .ref aX, .int (iI pr), .int (iI tk), .int (iI tol), .int (iI hou)])), (aH, .inr (4, [.ref aHf, .ref aHl, .ref aHm, .ref aHr, .ref aHp, .int (iI bu)])), (aHp, .inl (gI g, 8, .inl (ar pa))), (aO, .inl (gl.1, 1, .inr (.inl lo)))] sz)) (va_Qi (fun r u => r = iI ((fun (u : (Nat → Int64)) => rgT bu rg) u) ∧ (fun (u : (Nat → Int64)) => (rgT bu rg = 0 → u 0 = zL (gt0 bu pa rg))) u) (fun u t => xE g (va_A [(aR, .inr (10, [.ref aG, .ref aP, .ref aH, .ref aY, .ref aT, .ref aS, .ref aF, .ref aX, .int (iI pr), .int (iI tk), .int (iI tol), .int (iI hou)])), (aH, .inr (4, [.ref aHf, .ref aHl, .ref aHm, .ref aHr, .ref aHp, .int (iI bu)])), (aHp, .inl (gI g, 8, .inl (ar pa))), (aO, .inl (gl.1, 1, .inr (.inl lo)))] sz) ((fun (u : (Nat → Int64)) => [(aR, .inr (10, [.ref aG, .ref aP, .ref aH, .ref aY, .ref aT, .ref aS, .ref aF, .ref aX, .int (iI pr), .int (iI tk), .int (iI tol), .int (iI hou)])), (aH, .inr (4, [.ref aHf, .ref aHl, .ref aHm, .ref aHr, .ref aHp, .int (iI bu)])), (aHp, .inl (gI g, 8, .inl (ar pa))), (aO, .inl (gl.1, 1, .inr (.inl u)))]) u) t) (va_A [(aR, .inr (10, [.ref aG, .ref aP, .ref aH, .ref aY, .ref aT, .ref aS, .ref aF, .ref aX, .int (iI pr), .int (iI tk), .int (iI tol), .int (iI hou)])), (aH, .inr (4, [.ref aHf, .ref aHl, .ref aHm, .ref aHr, .ref aHp, .int (iI bu)])), (aHp, .inl (gI g, 8, .inl (ar pa))), (aO, .inl (gl.1, 1, .inr (.inl lo)))] sz)) 1 6 (va_A [(aR, .inr (10, [.ref aG, .ref aP, .ref aH, .ref aY, .ref aT, .ref aS, .ref aF, .ref aX, .int (iI pr), .int (iI tk), .int (iI tol), .int (iI hou)])), (aH, .inr (4, [.ref aHf, .ref aHl, .ref aHm, .ref aHr, .ref aHp, .int (iI bu)])), (aHp, .inl (gI g, 8, .inl (ar pa))), (aO, .inl (gl.1, 1, .inr (.inl lo)))] sz) := by
  refine x_enterH (y := yL_paidTo) (ws := wsL_paidTo) (g := g) (sz := sz) (av := [.ref aR, .int (iI rg), .ref aO]) (WS := [(aR, .inr (10, [.ref aG, .ref aP, .ref aH, .ref aY, .ref aT, .ref aS, .ref aF, .ref aX, .int (iI pr), .int (iI tk), .int (iI tol), .int (iI hou)])), (aH, .inr (4, [.ref aHf, .ref aHl, .ref aHm, .ref aHr, .ref aHp, .int (iI bu)])), (aHp, .inl (gI g, 8, .inl (ar pa))), (aO, .inl (gl.1, 1, .inr (.inl lo)))]) (cc := cL_paidTo) (maxL := 4) (ret := some .int) (Qc := (fun A => (va_Qi (fun r u => r = iI ((fun (u : (Nat → Int64)) => rgT bu rg) u) ∧ (fun (u : (Nat → Int64)) => (rgT bu rg = 0 → u 0 = zL (gt0 bu pa rg))) u) (fun u t => xE g A ((fun (u : (Nat → Int64)) => [(aR, .inr (10, [.ref aG, .ref aP, .ref aH, .ref aY, .ref aT, .ref aS, .ref aF, .ref aX, .int (iI pr), .int (iI tk), .int (iI tol), .int (iI hou)])), (aH, .inr (4, [.ref aHf, .ref aHl, .ref aHm, .ref aHr, .ref aHp, .int (iI bu)])), (aHp, .inl (gI g, 8, .inl (ar pa))), (aO, .inl (gl.1, 1, .inr (.inl u)))]) u) t) A))) (by decide) rfl (Nat.le_of_ble_eq_true rfl) ?_
  intro p e s m args below meth c A ls hx hb hr hml hown hts hlocks htab hL hC hP hD hS hA hl
  have hK := hC.1
  have hown : s.vm.findClass RL = some m.cls := hown
  have hl : lv_has ls 4 [(0, .ref aR), (1, .int (iI rg)), (2, .ref aO)] := hl
  obtain ⟨H, hH⟩ : ∃ z, z = s.heap := ⟨_, rfl⟩
  obtain ⟨locs, hlo⟩ : ∃ z : List Loc, z = [] := ⟨_, rfl⟩
  obtain ⟨Q9, hQ9⟩ : ∃ z, z = MQ below (va_Qi (fun r u => r = iI ((fun (u : (Nat → Int64)) => rgT bu rg) u) ∧ (fun (u : (Nat → Int64)) => (rgT bu rg = 0 → u 0 = zL (gt0 bu pa rg))) u) (fun u t => xE g A ((fun (u : (Nat → Int64)) => [(aR, .inr (10, [.ref aG, .ref aP, .ref aH, .ref aY, .ref aT, .ref aS, .ref aF, .ref aX, .int (iI pr), .int (iI tk), .int (iI tol), .int (iI hou)])), (aH, .inr (4, [.ref aHf, .ref aHl, .ref aHm, .ref aHr, .ref aHp, .int (iI bu)])), (aHp, .inl (gI g, 8, .inl (ar pa))), (aO, .inl (gl.1, 1, .inr (.inl u)))]) u) t) A) args s 1 6 A := ⟨_, rfl⟩
  have hP : va_P (gD g) vwCl [(aR, .inr (10, [.ref aG, .ref aP, .ref aH, .ref aY, .ref aT, .ref aS, .ref aF, .ref aX, .int (iI pr), .int (iI tk), .int (iI tol), .int (iI hou)])), (aH, .inr (4, [.ref aHf, .ref aHl, .ref aHm, .ref aHr, .ref aHp, .int (iI bu)])), (aHp, .inl (gI g, 8, .inl (ar pa))), (aO, .inl (gl.1, 1, .inr (.inl lo)))] H := by rw [hH]; exact hP
  have hS : va_S A s.heap H locs := by rw [hH, hlo]; exact hS
  have goal_ : W p l e { frames := 8, cells := 1, slots := 6, locals := 134 } s m args below meth c H locs 0 0 Q9 (F0 m 0 ls []) := by
    clear hH hlo
    refine lv_aload_n hx hb dL_paidTo_0 rfl (lv_at hl 2 rfl) ?_
    refine x_iconst hx hb dL_paidTo_1 ?_
    refine lv_aload_n hx hb dL_paidTo_2 rfl (lv_at hl 0 rfl) ?_
    refine lv_iload_n hx hb dL_paidTo_3 rfl (lv_at hl 1 rfl) ?_
    refine x_calliX (S := Unit) (SX := Unit) (wc := [(aR, .inr (10, [.ref aG, .ref aP, .ref aH, .ref aY, .ref aT, .ref aS, .ref aF, .ref aX, .int (iI pr), .int (iI tk), .int (iI tol), .int (iI hou)])), (aH, .inr (4, [.ref aHf, .ref aHl, .ref aHm, .ref aHr, .ref aHp, .int (iI bu)])), (aHp, .inl (gI g, 8, .inl (ar pa)))]) (wr := [(aO, .inl (gl.1, 1, .inr (.inl lo)))]) hC hP hD hS hA [0, 1, 2] [3] [1, 2, 3, 0] rfl rfl (fun hpre => vx_runV (As := [.int (iI rg)]) (rest := [.int (iI 0), .ref aO]) ⟨hx, hb, hml, hown, hts⟩ (c_X8_paidTo l hflags g H.size aR aG aP aH aY aT aS aF aX aHf aHl aHm aHr aHp pr tk tol hou bu rg pa (by first | (first | assumption | omega | exact bnd_up (by assumption) (by omega) (by omega)) | fail "q8") (by first | (first | assumption | omega | exact bnd_up (by assumption) (by omega) (by omega)) | fail "q8")) (cwV 1 hts gL_paidTo_X8_paidTo rfl rfl rfl (by decide +kernel) ⟨Nat.le_of_ble_eq_true rfl, Nat.le_of_ble_eq_true rfl⟩) ⟨xB_blind, va_recv hK hP (ci := 10) (q0 := 0) rfl rfl, hpre _⟩ rfl rfl hl.1 rfl (lv_room (Nat.le_of_ble_eq_true rfl)) dL_paidTo_4 ⟨Nat.le_of_ble_eq_true rfl, Nat.le_of_ble_eq_true rfl⟩) (fun (u : Unit) => [(aR, .inr (10, [.ref aG, .ref aP, .ref aH, .ref aY, .ref aT, .ref aS, .ref aF, .ref aX, .int (iI pr), .int (iI tk), .int (iI tol), .int (iI hou)])), (aH, .inr (4, [.ref aHf, .ref aHl, .ref aHm, .ref aHr, .ref aHp, .int (iI bu)])), (aHp, .inl (gI g, 8, .inl (ar pa))), (aO, .inl (gl.1, 1, .inr (.inl lo)))]) (fun (u : Unit) => ([(aR, .inr (10, [.ref aG, .ref aP, .ref aH, .ref aY, .ref aT, .ref aS, .ref aF, .ref aX, .int (iI pr), .int (iI tk), .int (iI tol), .int (iI hou)])), (aH, .inr (4, [.ref aHf, .ref aHl, .ref aHm, .ref aHr, .ref aHp, .int (iI bu)])), (aHp, .inl (gI g, 8, .inl (ar pa))), (aO, .inl (gl.1, 1, .inr (.inl lo)))] : va_W)) rfl rfl (by decide) (fun _ => rfl) (fun _ => rfl) rfl (fun E ce q9 u H locs hXP hPX hP hD hS hcell hv9 hcl => ?_) (fun u v_1 H locs hv_1 pv_1 hP hD hS => ?_)
    · skip
      have hP : va_P (gD g) vwCl [(aR, .inr (10, [.ref aG, .ref aP, .ref aH, .ref aY, .ref aT, .ref aS, .ref aF, .ref aX, .int (iI pr), .int (iI tk), .int (iI tol), .int (iI hou)])), (aH, .inr (4, [.ref aHf, .ref aHl, .ref aHm, .ref aHr, .ref aHp, .int (iI bu)])), (aHp, .inl (gI g, 8, .inl (ar pa))), (aO, .inl (gl.1, 1, .inr (.inl lo)))] H := hP
      have hD : va_D A [(aR, .inr (10, [.ref aG, .ref aP, .ref aH, .ref aY, .ref aT, .ref aS, .ref aF, .ref aX, .int (iI pr), .int (iI tk), .int (iI tol), .int (iI hou)])), (aH, .inr (4, [.ref aHf, .ref aHl, .ref aHm, .ref aHr, .ref aHp, .int (iI bu)])), (aHp, .inl (gI g, 8, .inl (ar pa))), (aO, .inl (gl.1, 1, .inr (.inl lo)))] := hD
      obtain ⟨hE, hp⟩ := hPX
      have hp : rgT bu rg = 1 := hp
      subst hE
      refine vx_catch (E := "java/lang/IndexOutOfBoundsException") (name := "java/lang/IndexOutOfBoundsException") hown [] ⟨0, 9, 12, 24⟩ [] (by rw [htab]; rfl) (fun z hz => by cases hz) (by decide) (by decide) (hts (.classLink RL 24 "java/lang/IndexOutOfBoundsException") (List.mem_of_getElem? (i := 1) rfl)) (va_Nw.use rfl (hC.2.2.2.2.2.2.2.2.2.2.1 "java/lang/IndexOutOfBoundsException" (List.mem_of_getElem? (i := 2) rfl))) hcell hv9 hcl ?_
      refine lv_astore_n (lv' := [(3, .ref q9), (0, .ref aR), (1, .int (iI rg)), (2, .ref aO)]) hx hb dL_paidTo_12 rfl hl (by decide) rfl (fun ls hl => ?_)
      refine x_iconst hx hb dL_paidTo_13 ?_
      rw [hQ9]
      exact x_iret hx hb hr hlocks hP hD hS (S := (Nat → Int64)) rfl dL_paidTo_14 lo (by
          first
          | (
             first | omega | (subst_vars; omega))
          | fail "q9") (by
          first
          | (
             intro h0
             first | (exfalso; omega) | ((try dsimp only); rw [zl_up]; subst_vars; rfl) | ((try dsimp only); rw [zl_up]; congr 1))
          | fail "q9") rfl (Nat.le_of_ble_eq_true rfl) (Nat.le_of_ble_eq_true rfl)
    · skip
      have hP : va_P (gD g) vwCl [(aR, .inr (10, [.ref aG, .ref aP, .ref aH, .ref aY, .ref aT, .ref aS, .ref aF, .ref aX, .int (iI pr), .int (iI tk), .int (iI tol), .int (iI hou)])), (aH, .inr (4, [.ref aHf, .ref aHl, .ref aHm, .ref aHr, .ref aHp, .int (iI bu)])), (aHp, .inl (gI g, 8, .inl (ar pa))), (aO, .inl (gl.1, 1, .inr (.inl lo)))] H := hP
      have hD : va_D A [(aR, .inr (10, [.ref aG, .ref aP, .ref aH, .ref aY, .ref aT, .ref aS, .ref aF, .ref aX, .int (iI pr), .int (iI tk), .int (iI tol), .int (iI hou)])), (aH, .inr (4, [.ref aHf, .ref aHl, .ref aHm, .ref aHr, .ref aHp, .int (iI bu)])), (aHp, .inl (gI g, 8, .inl (ar pa))), (aO, .inl (gl.1, 1, .inr (.inl lo)))] := hD
      have hv_1 : v_1 = gt0 bu pa rg := hv_1
      obtain ⟨tv_1, pv_1⟩ := pv_1
      have tv_1 : rgT bu rg = 0 := tv_1
      refine x_i2z hx hb dL_paidTo_7 ?_
      refine va_last hx hb hL.1 hP hD hS 3 0 rfl rfl zl_in dL_paidTo_8 (fun H locs hP hD hS => ?_)
      have hP : va_P (gD g) vwCl [(aR, .inr (10, [.ref aG, .ref aP, .ref aH, .ref aY, .ref aT, .ref aS, .ref aF, .ref aX, .int (iI pr), .int (iI tk), .int (iI tol), .int (iI hou)])), (aH, .inr (4, [.ref aHf, .ref aHl, .ref aHm, .ref aHr, .ref aHp, .int (iI bu)])), (aHp, .inl (gI g, 8, .inl (ar pa))), (aO, .inl (gl.1, 1, .inr (.inl (vp_updL lo (iI 0).toNatClampNeg (zL v_1)))))] H := hP
      have hD : va_D A [(aR, .inr (10, [.ref aG, .ref aP, .ref aH, .ref aY, .ref aT, .ref aS, .ref aF, .ref aX, .int (iI pr), .int (iI tk), .int (iI tol), .int (iI hou)])), (aH, .inr (4, [.ref aHf, .ref aHl, .ref aHm, .ref aHr, .ref aHp, .int (iI bu)])), (aHp, .inl (gI g, 8, .inl (ar pa))), (aO, .inl (gl.1, 1, .inr (.inl (vp_updL lo (iI 0).toNatClampNeg (zL v_1)))))] := hD
      refine lv_goto (tgt := 15) hx hb dL_paidTo_9 (by decide) ?_
      refine x_iconst hx hb dL_paidTo_15 ?_
      rw [hQ9]
      exact x_iret hx hb hr hlocks hP hD hS (S := (Nat → Int64)) rfl dL_paidTo_16 (vp_updL lo (iI 0).toNatClampNeg (zL v_1)) (by
          first
          | (
             first | omega | (subst_vars; omega))
          | fail "q9") (by
          first
          | (
             intro h0
             first | (exfalso; omega) | ((try dsimp only); rw [zl_up]; subst_vars; rfl) | ((try dsimp only); rw [zl_up]; congr 1))
          | fail "q9") rfl (Nat.le_of_ble_eq_true rfl) (Nat.le_of_ble_eq_true rfl)
  rw [hH, hlo, hQ9] at goal_
  exact goal_

set_option maxHeartbeats 4000000 in
set_option maxRecDepth 100000 in
theorem c_L_worstHouse (l : Launch) (hflags : l.stackTraces = false) (g : xg) (gl : ClassId × ClassId) (sz : Nat) (aR aG aP aH aY aT aS aF aX aHf aHl aHm aHr aHp aGn aGw aGs aO : Nat) (pr tk tol hou bu kn : Int) (fi la sk : Int → Int) (lo : Nat → Int64) (hkn : 0 ≤ kn ∧ kn ≤ 200) (hbu : 0 ≤ bu ∧ bu ≤ 8) (hb_sk : bnd sk 0 500000) (hb_fi : bnd fi 0 199) (hb_la : bnd la 0 199) (hfl : ∀ h : Int, 0 ≤ h → h < bu → fi h ≤ la h) (hlk : ∀ h : Int, 0 ≤ h → h < bu → la h < kn) : Met l yL_worstHouse wsL_worstHouse { frames := 7, cells := 1, slots := 6, locals := 114 } (va_Pc [.ref aR, .ref aO] (xBL g gl [(aR, .inr (10, [.ref aG, .ref aP, .ref aH, .ref aY, .ref aT, .ref aS, .ref aF, .ref aX, .int (iI pr), .int (iI tk), .int (iI tol), .int (iI hou)])), (aH, .inr (4, [.ref aHf, .ref aHl, .ref aHm, .ref aHr, .ref aHp, .int (iI bu)])), (aHf, .inl (gI g, 8, .inl (ar fi))), (aHl, .inl (gI g, 8, .inl (ar la))), (aG, .inr (3, [.ref aGn, .ref aGw, .ref aGs, .int (iI kn)])), (aGs, .inl (gI g, 200, .inl (ar sk))), (aO, .inl (gl.1, 1, .inr (.inl lo)))] sz)) (va_Qi (fun r u => r = iI ((fun (u : (Nat → Int64)) => noT bu) u) ∧ (fun (u : (Nat → Int64)) => (noT bu = 0 → u 0 = zL (worI (mostF sk fi la) bu))) u) (fun u t => xE g (va_A [(aR, .inr (10, [.ref aG, .ref aP, .ref aH, .ref aY, .ref aT, .ref aS, .ref aF, .ref aX, .int (iI pr), .int (iI tk), .int (iI tol), .int (iI hou)])), (aH, .inr (4, [.ref aHf, .ref aHl, .ref aHm, .ref aHr, .ref aHp, .int (iI bu)])), (aHf, .inl (gI g, 8, .inl (ar fi))), (aHl, .inl (gI g, 8, .inl (ar la))), (aG, .inr (3, [.ref aGn, .ref aGw, .ref aGs, .int (iI kn)])), (aGs, .inl (gI g, 200, .inl (ar sk))), (aO, .inl (gl.1, 1, .inr (.inl lo)))] sz) ((fun (u : (Nat → Int64)) => [(aR, .inr (10, [.ref aG, .ref aP, .ref aH, .ref aY, .ref aT, .ref aS, .ref aF, .ref aX, .int (iI pr), .int (iI tk), .int (iI tol), .int (iI hou)])), (aH, .inr (4, [.ref aHf, .ref aHl, .ref aHm, .ref aHr, .ref aHp, .int (iI bu)])), (aHf, .inl (gI g, 8, .inl (ar fi))), (aHl, .inl (gI g, 8, .inl (ar la))), (aG, .inr (3, [.ref aGn, .ref aGw, .ref aGs, .int (iI kn)])), (aGs, .inl (gI g, 200, .inl (ar sk))), (aO, .inl (gl.1, 1, .inr (.inl u)))]) u) t) (va_A [(aR, .inr (10, [.ref aG, .ref aP, .ref aH, .ref aY, .ref aT, .ref aS, .ref aF, .ref aX, .int (iI pr), .int (iI tk), .int (iI tol), .int (iI hou)])), (aH, .inr (4, [.ref aHf, .ref aHl, .ref aHm, .ref aHr, .ref aHp, .int (iI bu)])), (aHf, .inl (gI g, 8, .inl (ar fi))), (aHl, .inl (gI g, 8, .inl (ar la))), (aG, .inr (3, [.ref aGn, .ref aGw, .ref aGs, .int (iI kn)])), (aGs, .inl (gI g, 200, .inl (ar sk))), (aO, .inl (gl.1, 1, .inr (.inl lo)))] sz)) 1 6 (va_A [(aR, .inr (10, [.ref aG, .ref aP, .ref aH, .ref aY, .ref aT, .ref aS, .ref aF, .ref aX, .int (iI pr), .int (iI tk), .int (iI tol), .int (iI hou)])), (aH, .inr (4, [.ref aHf, .ref aHl, .ref aHm, .ref aHr, .ref aHp, .int (iI bu)])), (aHf, .inl (gI g, 8, .inl (ar fi))), (aHl, .inl (gI g, 8, .inl (ar la))), (aG, .inr (3, [.ref aGn, .ref aGw, .ref aGs, .int (iI kn)])), (aGs, .inl (gI g, 200, .inl (ar sk))), (aO, .inl (gl.1, 1, .inr (.inl lo)))] sz) := by
  refine x_enterH (y := yL_worstHouse) (ws := wsL_worstHouse) (g := g) (sz := sz) (av := [.ref aR, .ref aO]) (WS := [(aR, .inr (10, [.ref aG, .ref aP, .ref aH, .ref aY, .ref aT, .ref aS, .ref aF, .ref aX, .int (iI pr), .int (iI tk), .int (iI tol), .int (iI hou)])), (aH, .inr (4, [.ref aHf, .ref aHl, .ref aHm, .ref aHr, .ref aHp, .int (iI bu)])), (aHf, .inl (gI g, 8, .inl (ar fi))), (aHl, .inl (gI g, 8, .inl (ar la))), (aG, .inr (3, [.ref aGn, .ref aGw, .ref aGs, .int (iI kn)])), (aGs, .inl (gI g, 200, .inl (ar sk))), (aO, .inl (gl.1, 1, .inr (.inl lo)))]) (cc := cL_worstHouse) (maxL := 3) (ret := some .int) (Qc := (fun A => (va_Qi (fun r u => r = iI ((fun (u : (Nat → Int64)) => noT bu) u) ∧ (fun (u : (Nat → Int64)) => (noT bu = 0 → u 0 = zL (worI (mostF sk fi la) bu))) u) (fun u t => xE g A ((fun (u : (Nat → Int64)) => [(aR, .inr (10, [.ref aG, .ref aP, .ref aH, .ref aY, .ref aT, .ref aS, .ref aF, .ref aX, .int (iI pr), .int (iI tk), .int (iI tol), .int (iI hou)])), (aH, .inr (4, [.ref aHf, .ref aHl, .ref aHm, .ref aHr, .ref aHp, .int (iI bu)])), (aHf, .inl (gI g, 8, .inl (ar fi))), (aHl, .inl (gI g, 8, .inl (ar la))), (aG, .inr (3, [.ref aGn, .ref aGw, .ref aGs, .int (iI kn)])), (aGs, .inl (gI g, 200, .inl (ar sk))), (aO, .inl (gl.1, 1, .inr (.inl u)))]) u) t) A))) (by decide) rfl (Nat.le_of_ble_eq_true rfl) ?_
  intro p e s m args below meth c A ls hx hb hr hml hown hts hlocks htab hL hC hP hD hS hA hl
  have hK := hC.1
  have hown : s.vm.findClass RL = some m.cls := hown
  have hl : lv_has ls 3 [(0, .ref aR), (1, .ref aO)] := hl
  obtain ⟨H, hH⟩ : ∃ z, z = s.heap := ⟨_, rfl⟩
  obtain ⟨locs, hlo⟩ : ∃ z : List Loc, z = [] := ⟨_, rfl⟩
  obtain ⟨Q9, hQ9⟩ : ∃ z, z = MQ below (va_Qi (fun r u => r = iI ((fun (u : (Nat → Int64)) => noT bu) u) ∧ (fun (u : (Nat → Int64)) => (noT bu = 0 → u 0 = zL (worI (mostF sk fi la) bu))) u) (fun u t => xE g A ((fun (u : (Nat → Int64)) => [(aR, .inr (10, [.ref aG, .ref aP, .ref aH, .ref aY, .ref aT, .ref aS, .ref aF, .ref aX, .int (iI pr), .int (iI tk), .int (iI tol), .int (iI hou)])), (aH, .inr (4, [.ref aHf, .ref aHl, .ref aHm, .ref aHr, .ref aHp, .int (iI bu)])), (aHf, .inl (gI g, 8, .inl (ar fi))), (aHl, .inl (gI g, 8, .inl (ar la))), (aG, .inr (3, [.ref aGn, .ref aGw, .ref aGs, .int (iI kn)])), (aGs, .inl (gI g, 200, .inl (ar sk))), (aO, .inl (gl.1, 1, .inr (.inl u)))]) u) t) A) args s 1 6 A := ⟨_, rfl⟩
  have hP : va_P (gD g) vwCl [(aR, .inr (10, [.ref aG, .ref aP, .ref aH, .ref aY, .ref aT, .ref aS, .ref aF, .ref aX, .int (iI pr), .int (iI tk), .int (iI tol), .int (iI hou)])), (aH, .inr (4, [.ref aHf, .ref aHl, .ref aHm, .ref aHr, .ref aHp, .int (iI bu)])), (aHf, .inl (gI g, 8, .inl (ar fi))), (aHl, .inl (gI g, 8, .inl (ar la))), (aG, .inr (3, [.ref aGn, .ref aGw, .ref aGs, .int (iI kn)])), (aGs, .inl (gI g, 200, .inl (ar sk))), (aO, .inl (gl.1, 1, .inr (.inl lo)))] H := by rw [hH]; exact hP
  have hS : va_S A s.heap H locs := by rw [hH, hlo]; exact hS
  have goal_ : W p l e { frames := 7, cells := 1, slots := 6, locals := 114 } s m args below meth c H locs 0 0 Q9 (F0 m 0 ls []) := by
    clear hH hlo
    refine lv_aload_n hx hb dL_worstHouse_0 rfl (lv_at hl 1 rfl) ?_
    refine x_iconst hx hb dL_worstHouse_1 ?_
    refine lv_aload_n hx hb dL_worstHouse_2 rfl (lv_at hl 0 rfl) ?_
    refine x_calliX (S := Unit) (SX := Unit) (wc := [(aR, .inr (10, [.ref aG, .ref aP, .ref aH, .ref aY, .ref aT, .ref aS, .ref aF, .ref aX, .int (iI pr), .int (iI tk), .int (iI tol), .int (iI hou)])), (aH, .inr (4, [.ref aHf, .ref aHl, .ref aHm, .ref aHr, .ref aHp, .int (iI bu)])), (aHf, .inl (gI g, 8, .inl (ar fi))), (aHl, .inl (gI g, 8, .inl (ar la))), (aG, .inr (3, [.ref aGn, .ref aGw, .ref aGs, .int (iI kn)])), (aGs, .inl (gI g, 200, .inl (ar sk)))]) (wr := [(aO, .inl (gl.1, 1, .inr (.inl lo)))]) hC hP hD hS hA [0, 1, 2, 3, 4, 5] [6] [1, 2, 3, 4, 5, 6, 0] rfl rfl (fun hpre => vx_runV (As := []) (rest := [.int (iI 0), .ref aO]) ⟨hx, hb, hml, hown, hts⟩ (c_X8_worstHouse l hflags g H.size aR aG aP aH aY aT aS aF aX aHf aHl aHm aHr aHp aGn aGw aGs pr tk tol hou bu kn fi la sk (by first | (first | assumption | omega | exact bnd_up (by assumption) (by omega) (by omega)) | fail "q8") (by first | (first | assumption | omega | exact bnd_up (by assumption) (by omega) (by omega)) | fail "q8") (by first | (first | assumption | omega | exact bnd_up (by assumption) (by omega) (by omega)) | fail "q8") (by first | (first | assumption | omega | exact bnd_up (by assumption) (by omega) (by omega)) | fail "q8") (by first | (first | assumption | omega | exact bnd_up (by assumption) (by omega) (by omega)) | fail "q8") (by first | (first | assumption | omega | exact bnd_up (by assumption) (by omega) (by omega)) | fail "q8") (by first | (first | assumption | omega | exact bnd_up (by assumption) (by omega) (by omega)) | fail "q8")) (cwV 0 hts gL_worstHouse_X8_worstHouse rfl rfl rfl (by decide +kernel) ⟨Nat.le_of_ble_eq_true rfl, Nat.le_of_ble_eq_true rfl⟩) ⟨xB_blind, va_recv hK hP (ci := 10) (q0 := 0) rfl rfl, hpre _⟩ rfl rfl hl.1 rfl (lv_room (Nat.le_of_ble_eq_true rfl)) dL_worstHouse_3 ⟨Nat.le_of_ble_eq_true rfl, Nat.le_of_ble_eq_true rfl⟩) (fun (u : Unit) => [(aR, .inr (10, [.ref aG, .ref aP, .ref aH, .ref aY, .ref aT, .ref aS, .ref aF, .ref aX, .int (iI pr), .int (iI tk), .int (iI tol), .int (iI hou)])), (aH, .inr (4, [.ref aHf, .ref aHl, .ref aHm, .ref aHr, .ref aHp, .int (iI bu)])), (aHf, .inl (gI g, 8, .inl (ar fi))), (aHl, .inl (gI g, 8, .inl (ar la))), (aG, .inr (3, [.ref aGn, .ref aGw, .ref aGs, .int (iI kn)])), (aGs, .inl (gI g, 200, .inl (ar sk))), (aO, .inl (gl.1, 1, .inr (.inl lo)))]) (fun (u : Unit) => ([(aR, .inr (10, [.ref aG, .ref aP, .ref aH, .ref aY, .ref aT, .ref aS, .ref aF, .ref aX, .int (iI pr), .int (iI tk), .int (iI tol), .int (iI hou)])), (aH, .inr (4, [.ref aHf, .ref aHl, .ref aHm, .ref aHr, .ref aHp, .int (iI bu)])), (aHf, .inl (gI g, 8, .inl (ar fi))), (aHl, .inl (gI g, 8, .inl (ar la))), (aG, .inr (3, [.ref aGn, .ref aGw, .ref aGs, .int (iI kn)])), (aGs, .inl (gI g, 200, .inl (ar sk))), (aO, .inl (gl.1, 1, .inr (.inl lo)))] : va_W)) rfl rfl (by decide) (fun _ => rfl) (fun _ => rfl) rfl (fun E ce q9 u H locs hXP hPX hP hD hS hcell hv9 hcl => ?_) (fun u v_1 H locs hv_1 pv_1 hP hD hS => ?_)
    · skip
      have hP : va_P (gD g) vwCl [(aR, .inr (10, [.ref aG, .ref aP, .ref aH, .ref aY, .ref aT, .ref aS, .ref aF, .ref aX, .int (iI pr), .int (iI tk), .int (iI tol), .int (iI hou)])), (aH, .inr (4, [.ref aHf, .ref aHl, .ref aHm, .ref aHr, .ref aHp, .int (iI bu)])), (aHf, .inl (gI g, 8, .inl (ar fi))), (aHl, .inl (gI g, 8, .inl (ar la))), (aG, .inr (3, [.ref aGn, .ref aGw, .ref aGs, .int (iI kn)])), (aGs, .inl (gI g, 200, .inl (ar sk))), (aO, .inl (gl.1, 1, .inr (.inl lo)))] H := hP
      have hD : va_D A [(aR, .inr (10, [.ref aG, .ref aP, .ref aH, .ref aY, .ref aT, .ref aS, .ref aF, .ref aX, .int (iI pr), .int (iI tk), .int (iI tol), .int (iI hou)])), (aH, .inr (4, [.ref aHf, .ref aHl, .ref aHm, .ref aHr, .ref aHp, .int (iI bu)])), (aHf, .inl (gI g, 8, .inl (ar fi))), (aHl, .inl (gI g, 8, .inl (ar la))), (aG, .inr (3, [.ref aGn, .ref aGw, .ref aGs, .int (iI kn)])), (aGs, .inl (gI g, 200, .inl (ar sk))), (aO, .inl (gl.1, 1, .inr (.inl lo)))] := hD
      obtain ⟨hE, hp⟩ := hPX
      have hp : noT bu = 1 := hp
      subst hE
      refine vx_catch (E := "java/util/NoSuchElementException") (name := "java/util/NoSuchElementException") hown [] ⟨0, 8, 11, 43⟩ [] (by rw [htab]; rfl) (fun z hz => by cases hz) (by decide) (by decide) (hts (.classLink RL 43 "java/util/NoSuchElementException") (List.mem_of_getElem? (i := 1) rfl)) (va_Nw.use rfl (hC.2.2.2.2.2.2.2.2.2.2.1 "java/util/NoSuchElementException" (List.mem_of_getElem? (i := 3) rfl))) hcell hv9 hcl ?_
      refine lv_astore_n (lv' := [(2, .ref q9), (0, .ref aR), (1, .ref aO)]) hx hb dL_worstHouse_11 rfl hl (by decide) rfl (fun ls hl => ?_)
      refine x_iconst hx hb dL_worstHouse_12 ?_
      rw [hQ9]
      exact x_iret hx hb hr hlocks hP hD hS (S := (Nat → Int64)) rfl dL_worstHouse_13 lo (by
          first
          | (
             first | omega | (subst_vars; omega))
          | fail "q9") (by
          first
          | (
             intro h0
             first | (exfalso; omega) | ((try dsimp only); rw [zl_up]; subst_vars; rfl) | ((try dsimp only); rw [zl_up]; congr 1))
          | fail "q9") rfl (Nat.le_of_ble_eq_true rfl) (Nat.le_of_ble_eq_true rfl)
    · skip
      have hP : va_P (gD g) vwCl [(aR, .inr (10, [.ref aG, .ref aP, .ref aH, .ref aY, .ref aT, .ref aS, .ref aF, .ref aX, .int (iI pr), .int (iI tk), .int (iI tol), .int (iI hou)])), (aH, .inr (4, [.ref aHf, .ref aHl, .ref aHm, .ref aHr, .ref aHp, .int (iI bu)])), (aHf, .inl (gI g, 8, .inl (ar fi))), (aHl, .inl (gI g, 8, .inl (ar la))), (aG, .inr (3, [.ref aGn, .ref aGw, .ref aGs, .int (iI kn)])), (aGs, .inl (gI g, 200, .inl (ar sk))), (aO, .inl (gl.1, 1, .inr (.inl lo)))] H := hP
      have hD : va_D A [(aR, .inr (10, [.ref aG, .ref aP, .ref aH, .ref aY, .ref aT, .ref aS, .ref aF, .ref aX, .int (iI pr), .int (iI tk), .int (iI tol), .int (iI hou)])), (aH, .inr (4, [.ref aHf, .ref aHl, .ref aHm, .ref aHr, .ref aHp, .int (iI bu)])), (aHf, .inl (gI g, 8, .inl (ar fi))), (aHl, .inl (gI g, 8, .inl (ar la))), (aG, .inr (3, [.ref aGn, .ref aGw, .ref aGs, .int (iI kn)])), (aGs, .inl (gI g, 200, .inl (ar sk))), (aO, .inl (gl.1, 1, .inr (.inl lo)))] := hD
      have hv_1 : v_1 = worI (mostF sk fi la) bu := hv_1
      obtain ⟨tv_1, pv_1⟩ := pv_1
      have tv_1 : noT bu = 0 := tv_1
      refine x_i2z hx hb dL_worstHouse_6 ?_
      refine va_last hx hb hL.1 hP hD hS 6 0 rfl rfl zl_in dL_worstHouse_7 (fun H locs hP hD hS => ?_)
      have hP : va_P (gD g) vwCl [(aR, .inr (10, [.ref aG, .ref aP, .ref aH, .ref aY, .ref aT, .ref aS, .ref aF, .ref aX, .int (iI pr), .int (iI tk), .int (iI tol), .int (iI hou)])), (aH, .inr (4, [.ref aHf, .ref aHl, .ref aHm, .ref aHr, .ref aHp, .int (iI bu)])), (aHf, .inl (gI g, 8, .inl (ar fi))), (aHl, .inl (gI g, 8, .inl (ar la))), (aG, .inr (3, [.ref aGn, .ref aGw, .ref aGs, .int (iI kn)])), (aGs, .inl (gI g, 200, .inl (ar sk))), (aO, .inl (gl.1, 1, .inr (.inl (vp_updL lo (iI 0).toNatClampNeg (zL v_1)))))] H := hP
      have hD : va_D A [(aR, .inr (10, [.ref aG, .ref aP, .ref aH, .ref aY, .ref aT, .ref aS, .ref aF, .ref aX, .int (iI pr), .int (iI tk), .int (iI tol), .int (iI hou)])), (aH, .inr (4, [.ref aHf, .ref aHl, .ref aHm, .ref aHr, .ref aHp, .int (iI bu)])), (aHf, .inl (gI g, 8, .inl (ar fi))), (aHl, .inl (gI g, 8, .inl (ar la))), (aG, .inr (3, [.ref aGn, .ref aGw, .ref aGs, .int (iI kn)])), (aGs, .inl (gI g, 200, .inl (ar sk))), (aO, .inl (gl.1, 1, .inr (.inl (vp_updL lo (iI 0).toNatClampNeg (zL v_1)))))] := hD
      refine lv_goto (tgt := 14) hx hb dL_worstHouse_8 (by decide) ?_
      refine x_iconst hx hb dL_worstHouse_14 ?_
      rw [hQ9]
      exact x_iret hx hb hr hlocks hP hD hS (S := (Nat → Int64)) rfl dL_worstHouse_15 (vp_updL lo (iI 0).toNatClampNeg (zL v_1)) (by
          first
          | (
             first | omega | (subst_vars; omega))
          | fail "q9") (by
          first
          | (
             intro h0
             first | (exfalso; omega) | ((try dsimp only); rw [zl_up]; subst_vars; rfl) | ((try dsimp only); rw [zl_up]; congr 1))
          | fail "q9") rfl (Nat.le_of_ble_eq_true rfl) (Nat.le_of_ble_eq_true rfl)
  rw [hH, hlo, hQ9] at goal_
  exact goal_

set_option maxHeartbeats 4000000 in
set_option maxRecDepth 100000 in
theorem c_L_writeRings (l : Launch) (hflags : l.stackTraces = false) (g : xg) (gl : ClassId × ClassId) (sz : Nat) (aR aG aP aH aY aT aS aF aX aTp aTt aTx aTy aE aXs aO : Nat) (pr tk tol hou ld tl rg : Int) (tp tt sg : Int → Int) (lo : Nat → Int64) (hld : 0 ≤ ld ∧ ld ≤ 200) (hb_tp : bnd tp 0 7) (hb_tt : bnd tt 0 9) (htl : 0 ≤ tl ∧ tl ≤ 40) (hr_rg : iR rg) : Met l yL_writeRings wsL_writeRings { frames := 8, cells := 1, slots := 6, locals := 136 } (va_Pc [.ref aR, .int (iI rg), .ref aO] (xBL g gl [(aR, .inr (10, [.ref aG, .ref aP, .ref aH, .ref aY, .ref aT, .ref aS, .ref aF, .ref aX, .int (iI pr), .int (iI tk), .int (iI tol), .int (iI hou)])), (aT, .inr (8, [.ref aTp, .ref aTt, .ref aTx, .ref aTy, .ref aE, .int (iI ld)])), (aTp, .inl (gI g, 200, .inl (ar tp))), (aTt, .inl (gI g, 200, .inl (ar tt))), (aX, .inr (7, [.ref aXs, .int (iI tl)])), (aXs, .inl (gC g, 40, .inl (ar sg))), (aO, .inl (gl.1, 1, .inr (.inl lo)))] sz)) (va_Qi (fun r u => r = iI ((fun (u : (Nat → Int64)) => rgT ld rg) u) ∧ (fun (u : (Nat → Int64)) => (rgT ld rg = 0 → u 0 = zL (wrL (mn ld (rg + 10) - rg)))) u) (fun u t => xE g (va_A [(aR, .inr (10, [.ref aG, .ref aP, .ref aH, .ref aY, .ref aT, .ref aS, .ref aF, .ref aX, .int (iI pr), .int (iI tk), .int (iI tol), .int (iI hou)])), (aT, .inr (8, [.ref aTp, .ref aTt, .ref aTx, .ref aTy, .ref aE, .int (iI ld)])), (aTp, .inl (gI g, 200, .inl (ar tp))), (aTt, .inl (gI g, 200, .inl (ar tt))), (aX, .inr (7, [.ref aXs, .int (iI tl)])), (aXs, .inl (gC g, 40, .inl (ar sg))), (aO, .inl (gl.1, 1, .inr (.inl lo)))] sz) ((fun (u : (Nat → Int64)) => [(aR, .inr (10, [.ref aG, .ref aP, .ref aH, .ref aY, .ref aT, .ref aS, .ref aF, .ref aX, .int (iI pr), .int (iI tk), .int (iI tol), .int (iI hou)])), (aT, .inr (8, [.ref aTp, .ref aTt, .ref aTx, .ref aTy, .ref aE, .int (iI ld)])), (aTp, .inl (gI g, 200, .inl (ar tp))), (aTt, .inl (gI g, 200, .inl (ar tt))), (aX, .inr (7, [.ref aXs, .int (iI (if rgT ld rg = 0 then (wrL (mn ld (rg + 10) - rg)) else tl))])), (aXs, .inl (gC g, 40, .inl (ar (if rgT ld rg = 0 then (wrI tp tt sg rg (mn ld (rg + 10) - rg)) else sg)))), (aO, .inl (gl.1, 1, .inr (.inl u)))]) u) t) (va_A [(aR, .inr (10, [.ref aG, .ref aP, .ref aH, .ref aY, .ref aT, .ref aS, .ref aF, .ref aX, .int (iI pr), .int (iI tk), .int (iI tol), .int (iI hou)])), (aT, .inr (8, [.ref aTp, .ref aTt, .ref aTx, .ref aTy, .ref aE, .int (iI ld)])), (aTp, .inl (gI g, 200, .inl (ar tp))), (aTt, .inl (gI g, 200, .inl (ar tt))), (aX, .inr (7, [.ref aXs, .int (iI tl)])), (aXs, .inl (gC g, 40, .inl (ar sg))), (aO, .inl (gl.1, 1, .inr (.inl lo)))] sz)) 1 6 (va_A [(aR, .inr (10, [.ref aG, .ref aP, .ref aH, .ref aY, .ref aT, .ref aS, .ref aF, .ref aX, .int (iI pr), .int (iI tk), .int (iI tol), .int (iI hou)])), (aT, .inr (8, [.ref aTp, .ref aTt, .ref aTx, .ref aTy, .ref aE, .int (iI ld)])), (aTp, .inl (gI g, 200, .inl (ar tp))), (aTt, .inl (gI g, 200, .inl (ar tt))), (aX, .inr (7, [.ref aXs, .int (iI tl)])), (aXs, .inl (gC g, 40, .inl (ar sg))), (aO, .inl (gl.1, 1, .inr (.inl lo)))] sz) := by
  refine x_enterH (y := yL_writeRings) (ws := wsL_writeRings) (g := g) (sz := sz) (av := [.ref aR, .int (iI rg), .ref aO]) (WS := [(aR, .inr (10, [.ref aG, .ref aP, .ref aH, .ref aY, .ref aT, .ref aS, .ref aF, .ref aX, .int (iI pr), .int (iI tk), .int (iI tol), .int (iI hou)])), (aT, .inr (8, [.ref aTp, .ref aTt, .ref aTx, .ref aTy, .ref aE, .int (iI ld)])), (aTp, .inl (gI g, 200, .inl (ar tp))), (aTt, .inl (gI g, 200, .inl (ar tt))), (aX, .inr (7, [.ref aXs, .int (iI tl)])), (aXs, .inl (gC g, 40, .inl (ar sg))), (aO, .inl (gl.1, 1, .inr (.inl lo)))]) (cc := cL_writeRings) (maxL := 4) (ret := some .int) (Qc := (fun A => (va_Qi (fun r u => r = iI ((fun (u : (Nat → Int64)) => rgT ld rg) u) ∧ (fun (u : (Nat → Int64)) => (rgT ld rg = 0 → u 0 = zL (wrL (mn ld (rg + 10) - rg)))) u) (fun u t => xE g A ((fun (u : (Nat → Int64)) => [(aR, .inr (10, [.ref aG, .ref aP, .ref aH, .ref aY, .ref aT, .ref aS, .ref aF, .ref aX, .int (iI pr), .int (iI tk), .int (iI tol), .int (iI hou)])), (aT, .inr (8, [.ref aTp, .ref aTt, .ref aTx, .ref aTy, .ref aE, .int (iI ld)])), (aTp, .inl (gI g, 200, .inl (ar tp))), (aTt, .inl (gI g, 200, .inl (ar tt))), (aX, .inr (7, [.ref aXs, .int (iI (if rgT ld rg = 0 then (wrL (mn ld (rg + 10) - rg)) else tl))])), (aXs, .inl (gC g, 40, .inl (ar (if rgT ld rg = 0 then (wrI tp tt sg rg (mn ld (rg + 10) - rg)) else sg)))), (aO, .inl (gl.1, 1, .inr (.inl u)))]) u) t) A))) (by decide) rfl (Nat.le_of_ble_eq_true rfl) ?_
  intro p e s m args below meth c A ls hx hb hr hml hown hts hlocks htab hL hC hP hD hS hA hl
  have hK := hC.1
  have hown : s.vm.findClass RL = some m.cls := hown
  have hl : lv_has ls 4 [(0, .ref aR), (1, .int (iI rg)), (2, .ref aO)] := hl
  obtain ⟨H, hH⟩ : ∃ z, z = s.heap := ⟨_, rfl⟩
  obtain ⟨locs, hlo⟩ : ∃ z : List Loc, z = [] := ⟨_, rfl⟩
  obtain ⟨Q9, hQ9⟩ : ∃ z, z = MQ below (va_Qi (fun r u => r = iI ((fun (u : (Nat → Int64)) => rgT ld rg) u) ∧ (fun (u : (Nat → Int64)) => (rgT ld rg = 0 → u 0 = zL (wrL (mn ld (rg + 10) - rg)))) u) (fun u t => xE g A ((fun (u : (Nat → Int64)) => [(aR, .inr (10, [.ref aG, .ref aP, .ref aH, .ref aY, .ref aT, .ref aS, .ref aF, .ref aX, .int (iI pr), .int (iI tk), .int (iI tol), .int (iI hou)])), (aT, .inr (8, [.ref aTp, .ref aTt, .ref aTx, .ref aTy, .ref aE, .int (iI ld)])), (aTp, .inl (gI g, 200, .inl (ar tp))), (aTt, .inl (gI g, 200, .inl (ar tt))), (aX, .inr (7, [.ref aXs, .int (iI (if rgT ld rg = 0 then (wrL (mn ld (rg + 10) - rg)) else tl))])), (aXs, .inl (gC g, 40, .inl (ar (if rgT ld rg = 0 then (wrI tp tt sg rg (mn ld (rg + 10) - rg)) else sg)))), (aO, .inl (gl.1, 1, .inr (.inl u)))]) u) t) A) args s 1 6 A := ⟨_, rfl⟩
  have hP : va_P (gD g) vwCl [(aR, .inr (10, [.ref aG, .ref aP, .ref aH, .ref aY, .ref aT, .ref aS, .ref aF, .ref aX, .int (iI pr), .int (iI tk), .int (iI tol), .int (iI hou)])), (aT, .inr (8, [.ref aTp, .ref aTt, .ref aTx, .ref aTy, .ref aE, .int (iI ld)])), (aTp, .inl (gI g, 200, .inl (ar tp))), (aTt, .inl (gI g, 200, .inl (ar tt))), (aX, .inr (7, [.ref aXs, .int (iI tl)])), (aXs, .inl (gC g, 40, .inl (ar sg))), (aO, .inl (gl.1, 1, .inr (.inl lo)))] H := by rw [hH]; exact hP
  have hS : va_S A s.heap H locs := by rw [hH, hlo]; exact hS
  have goal_ : W p l e { frames := 8, cells := 1, slots := 6, locals := 136 } s m args below meth c H locs 0 0 Q9 (F0 m 0 ls []) := by
    clear hH hlo
    refine lv_aload_n hx hb dL_writeRings_0 rfl (lv_at hl 2 rfl) ?_
    refine x_iconst hx hb dL_writeRings_1 ?_
    refine lv_aload_n hx hb dL_writeRings_2 rfl (lv_at hl 0 rfl) ?_
    refine lv_iload_n hx hb dL_writeRings_3 rfl (lv_at hl 1 rfl) ?_
    refine x_calliX (S := Unit) (SX := Unit) (wc := [(aR, .inr (10, [.ref aG, .ref aP, .ref aH, .ref aY, .ref aT, .ref aS, .ref aF, .ref aX, .int (iI pr), .int (iI tk), .int (iI tol), .int (iI hou)])), (aT, .inr (8, [.ref aTp, .ref aTt, .ref aTx, .ref aTy, .ref aE, .int (iI ld)])), (aTp, .inl (gI g, 200, .inl (ar tp))), (aTt, .inl (gI g, 200, .inl (ar tt))), (aX, .inr (7, [.ref aXs, .int (iI tl)])), (aXs, .inl (gC g, 40, .inl (ar sg)))]) (wr := [(aO, .inl (gl.1, 1, .inr (.inl lo)))]) hC hP hD hS hA [0, 1, 2, 3, 4, 5] [6] [1, 2, 3, 4, 5, 6, 0] rfl rfl (fun hpre => vx_runV (As := [.int (iI rg)]) (rest := [.int (iI 0), .ref aO]) ⟨hx, hb, hml, hown, hts⟩ (c_X8_writeRings l hflags g H.size aR aG aP aH aY aT aS aF aX aTp aTt aTx aTy aE aXs pr tk tol hou ld tl rg tp tt sg (by first | (first | assumption | omega | exact bnd_up (by assumption) (by omega) (by omega)) | fail "q8") (by first | (first | assumption | omega | exact bnd_up (by assumption) (by omega) (by omega)) | fail "q8") (by first | (first | assumption | omega | exact bnd_up (by assumption) (by omega) (by omega)) | fail "q8") (by first | (first | assumption | omega | exact bnd_up (by assumption) (by omega) (by omega)) | fail "q8") (by first | (first | assumption | omega | exact bnd_up (by assumption) (by omega) (by omega)) | fail "q8")) (cwV 1 hts gL_writeRings_X8_writeRings rfl rfl rfl (by decide +kernel) ⟨Nat.le_of_ble_eq_true rfl, Nat.le_of_ble_eq_true rfl⟩) ⟨xB_blind, va_recv hK hP (ci := 10) (q0 := 0) rfl rfl, hpre _⟩ rfl rfl hl.1 rfl (lv_room (Nat.le_of_ble_eq_true rfl)) dL_writeRings_4 ⟨Nat.le_of_ble_eq_true rfl, Nat.le_of_ble_eq_true rfl⟩) (fun (u : Unit) => [(aR, .inr (10, [.ref aG, .ref aP, .ref aH, .ref aY, .ref aT, .ref aS, .ref aF, .ref aX, .int (iI pr), .int (iI tk), .int (iI tol), .int (iI hou)])), (aT, .inr (8, [.ref aTp, .ref aTt, .ref aTx, .ref aTy, .ref aE, .int (iI ld)])), (aTp, .inl (gI g, 200, .inl (ar tp))), (aTt, .inl (gI g, 200, .inl (ar tt))), (aX, .inr (7, [.ref aXs, .int (iI (wrL (mn ld (rg + 10) - rg)))])), (aXs, .inl (gC g, 40, .inl (ar (wrI tp tt sg rg (mn ld (rg + 10) - rg))))), (aO, .inl (gl.1, 1, .inr (.inl lo)))]) (fun (u : Unit) => ([(aR, .inr (10, [.ref aG, .ref aP, .ref aH, .ref aY, .ref aT, .ref aS, .ref aF, .ref aX, .int (iI pr), .int (iI tk), .int (iI tol), .int (iI hou)])), (aT, .inr (8, [.ref aTp, .ref aTt, .ref aTx, .ref aTy, .ref aE, .int (iI ld)])), (aTp, .inl (gI g, 200, .inl (ar tp))), (aTt, .inl (gI g, 200, .inl (ar tt))), (aX, .inr (7, [.ref aXs, .int (iI tl)])), (aXs, .inl (gC g, 40, .inl (ar sg))), (aO, .inl (gl.1, 1, .inr (.inl lo)))] : va_W)) rfl rfl (by decide) (fun _ => rfl) (fun _ => rfl) rfl (fun E ce q9 u H locs hXP hPX hP hD hS hcell hv9 hcl => ?_) (fun u v_1 H locs hv_1 pv_1 hP hD hS => ?_)
    · skip
      have hP : va_P (gD g) vwCl [(aR, .inr (10, [.ref aG, .ref aP, .ref aH, .ref aY, .ref aT, .ref aS, .ref aF, .ref aX, .int (iI pr), .int (iI tk), .int (iI tol), .int (iI hou)])), (aT, .inr (8, [.ref aTp, .ref aTt, .ref aTx, .ref aTy, .ref aE, .int (iI ld)])), (aTp, .inl (gI g, 200, .inl (ar tp))), (aTt, .inl (gI g, 200, .inl (ar tt))), (aX, .inr (7, [.ref aXs, .int (iI tl)])), (aXs, .inl (gC g, 40, .inl (ar sg))), (aO, .inl (gl.1, 1, .inr (.inl lo)))] H := hP
      have hD : va_D A [(aR, .inr (10, [.ref aG, .ref aP, .ref aH, .ref aY, .ref aT, .ref aS, .ref aF, .ref aX, .int (iI pr), .int (iI tk), .int (iI tol), .int (iI hou)])), (aT, .inr (8, [.ref aTp, .ref aTt, .ref aTx, .ref aTy, .ref aE, .int (iI ld)])), (aTp, .inl (gI g, 200, .inl (ar tp))), (aTt, .inl (gI g, 200, .inl (ar tt))), (aX, .inr (7, [.ref aXs, .int (iI tl)])), (aXs, .inl (gC g, 40, .inl (ar sg))), (aO, .inl (gl.1, 1, .inr (.inl lo)))] := hD
      obtain ⟨hE, hp⟩ := hPX
      have hp : rgT ld rg = 1 := hp
      subst hE
      refine vx_catch (E := "java/lang/IndexOutOfBoundsException") (name := "java/lang/IndexOutOfBoundsException") hown [] ⟨0, 9, 12, 24⟩ [] (by rw [htab]; rfl) (fun z hz => by cases hz) (by decide) (by decide) (hts (.classLink RL 24 "java/lang/IndexOutOfBoundsException") (List.mem_of_getElem? (i := 1) rfl)) (va_Nw.use rfl (hC.2.2.2.2.2.2.2.2.2.2.1 "java/lang/IndexOutOfBoundsException" (List.mem_of_getElem? (i := 2) rfl))) hcell hv9 hcl ?_
      refine lv_astore_n (lv' := [(3, .ref q9), (0, .ref aR), (1, .int (iI rg)), (2, .ref aO)]) hx hb dL_writeRings_12 rfl hl (by decide) rfl (fun ls hl => ?_)
      refine x_iconst hx hb dL_writeRings_13 ?_
      have q_2 : (if rgT ld rg = 0 then (wrL (mn ld (rg + 10) - rg)) else tl) = tl := by
        first
        | (
           first | rfl | (rw [if_pos (by omega)]) | (rw [if_neg (by omega)]) | (rw [if_pos (by omega)]; subst_vars; rfl))
        | fail "q9"
      have q_3 : (if rgT ld rg = 0 then (wrI tp tt sg rg (mn ld (rg + 10) - rg)) else sg) = sg := by
        first
        | (
           first | rfl | (rw [if_pos (by omega)]) | (rw [if_neg (by omega)]) | (rw [if_pos (by omega)]; subst_vars; rfl))
        | fail "q9"
      have hw_4 := (congr (congrArg (fun (z0 : Int) (z1 : Int → Int) => ([(aR, .inr (10, [.ref aG, .ref aP, .ref aH, .ref aY, .ref aT, .ref aS, .ref aF, .ref aX, .int (iI pr), .int (iI tk), .int (iI tol), .int (iI hou)])), (aT, .inr (8, [.ref aTp, .ref aTt, .ref aTx, .ref aTy, .ref aE, .int (iI ld)])), (aTp, .inl (gI g, 200, .inl (ar tp))), (aTt, .inl (gI g, 200, .inl (ar tt))), (aX, .inr (7, [.ref aXs, .int (iI z0)])), (aXs, .inl (gC g, 40, .inl (ar z1))), (aO, .inl (gl.1, 1, .inr (.inl lo)))] : va_W)) q_2.symm) q_3.symm)
      rw [hQ9]
      exact x_iret hx hb hr hlocks hP hD hS (S := (Nat → Int64)) rfl dL_writeRings_14 lo (by
          first
          | (
             first | omega | (subst_vars; omega))
          | fail "q9") (by
          first
          | (
             intro h0
             first | (exfalso; omega) | ((try dsimp only); rw [zl_up]; subst_vars; rfl) | ((try dsimp only); rw [zl_up]; congr 1))
          | fail "q9") hw_4 (Nat.le_of_ble_eq_true rfl) (Nat.le_of_ble_eq_true rfl)
    · skip
      have hP : va_P (gD g) vwCl [(aR, .inr (10, [.ref aG, .ref aP, .ref aH, .ref aY, .ref aT, .ref aS, .ref aF, .ref aX, .int (iI pr), .int (iI tk), .int (iI tol), .int (iI hou)])), (aT, .inr (8, [.ref aTp, .ref aTt, .ref aTx, .ref aTy, .ref aE, .int (iI ld)])), (aTp, .inl (gI g, 200, .inl (ar tp))), (aTt, .inl (gI g, 200, .inl (ar tt))), (aX, .inr (7, [.ref aXs, .int (iI (wrL (mn ld (rg + 10) - rg)))])), (aXs, .inl (gC g, 40, .inl (ar (wrI tp tt sg rg (mn ld (rg + 10) - rg))))), (aO, .inl (gl.1, 1, .inr (.inl lo)))] H := hP
      have hD : va_D A [(aR, .inr (10, [.ref aG, .ref aP, .ref aH, .ref aY, .ref aT, .ref aS, .ref aF, .ref aX, .int (iI pr), .int (iI tk), .int (iI tol), .int (iI hou)])), (aT, .inr (8, [.ref aTp, .ref aTt, .ref aTx, .ref aTy, .ref aE, .int (iI ld)])), (aTp, .inl (gI g, 200, .inl (ar tp))), (aTt, .inl (gI g, 200, .inl (ar tt))), (aX, .inr (7, [.ref aXs, .int (iI (wrL (mn ld (rg + 10) - rg)))])), (aXs, .inl (gC g, 40, .inl (ar (wrI tp tt sg rg (mn ld (rg + 10) - rg))))), (aO, .inl (gl.1, 1, .inr (.inl lo)))] := hD
      have hv_1 : v_1 = wrL (mn ld (rg + 10) - rg) := hv_1
      obtain ⟨tv_1, pv_1⟩ := pv_1
      have tv_1 : rgT ld rg = 0 := tv_1
      refine x_i2z hx hb dL_writeRings_7 ?_
      refine va_last hx hb hL.1 hP hD hS 6 0 rfl rfl zl_in dL_writeRings_8 (fun H locs hP hD hS => ?_)
      have hP : va_P (gD g) vwCl [(aR, .inr (10, [.ref aG, .ref aP, .ref aH, .ref aY, .ref aT, .ref aS, .ref aF, .ref aX, .int (iI pr), .int (iI tk), .int (iI tol), .int (iI hou)])), (aT, .inr (8, [.ref aTp, .ref aTt, .ref aTx, .ref aTy, .ref aE, .int (iI ld)])), (aTp, .inl (gI g, 200, .inl (ar tp))), (aTt, .inl (gI g, 200, .inl (ar tt))), (aX, .inr (7, [.ref aXs, .int (iI (wrL (mn ld (rg + 10) - rg)))])), (aXs, .inl (gC g, 40, .inl (ar (wrI tp tt sg rg (mn ld (rg + 10) - rg))))), (aO, .inl (gl.1, 1, .inr (.inl (vp_updL lo (iI 0).toNatClampNeg (zL v_1)))))] H := hP
      have hD : va_D A [(aR, .inr (10, [.ref aG, .ref aP, .ref aH, .ref aY, .ref aT, .ref aS, .ref aF, .ref aX, .int (iI pr), .int (iI tk), .int (iI tol), .int (iI hou)])), (aT, .inr (8, [.ref aTp, .ref aTt, .ref aTx, .ref aTy, .ref aE, .int (iI ld)])), (aTp, .inl (gI g, 200, .inl (ar tp))), (aTt, .inl (gI g, 200, .inl (ar tt))), (aX, .inr (7, [.ref aXs, .int (iI (wrL (mn ld (rg + 10) - rg)))])), (aXs, .inl (gC g, 40, .inl (ar (wrI tp tt sg rg (mn ld (rg + 10) - rg))))), (aO, .inl (gl.1, 1, .inr (.inl (vp_updL lo (iI 0).toNatClampNeg (zL v_1)))))] := hD
      refine lv_goto (tgt := 15) hx hb dL_writeRings_9 (by decide) ?_
      refine x_iconst hx hb dL_writeRings_15 ?_
      have q_5 : (if rgT ld rg = 0 then (wrL (mn ld (rg + 10) - rg)) else tl) = (wrL (mn ld (rg + 10) - rg)) := by
        first
        | (
           first | rfl | (rw [if_pos (by omega)]) | (rw [if_neg (by omega)]) | (rw [if_pos (by omega)]; subst_vars; rfl))
        | fail "q9"
      have q_6 : (if rgT ld rg = 0 then (wrI tp tt sg rg (mn ld (rg + 10) - rg)) else sg) = (wrI tp tt sg rg (mn ld (rg + 10) - rg)) := by
        first
        | (
           first | rfl | (rw [if_pos (by omega)]) | (rw [if_neg (by omega)]) | (rw [if_pos (by omega)]; subst_vars; rfl))
        | fail "q9"
      have hw_7 := (congr (congrArg (fun (z0 : Int) (z1 : Int → Int) => ([(aR, .inr (10, [.ref aG, .ref aP, .ref aH, .ref aY, .ref aT, .ref aS, .ref aF, .ref aX, .int (iI pr), .int (iI tk), .int (iI tol), .int (iI hou)])), (aT, .inr (8, [.ref aTp, .ref aTt, .ref aTx, .ref aTy, .ref aE, .int (iI ld)])), (aTp, .inl (gI g, 200, .inl (ar tp))), (aTt, .inl (gI g, 200, .inl (ar tt))), (aX, .inr (7, [.ref aXs, .int (iI z0)])), (aXs, .inl (gC g, 40, .inl (ar z1))), (aO, .inl (gl.1, 1, .inr (.inl (vp_updL lo (iI 0).toNatClampNeg (zL v_1)))))] : va_W)) q_5.symm) q_6.symm)
      rw [hQ9]
      exact x_iret hx hb hr hlocks hP hD hS (S := (Nat → Int64)) rfl dL_writeRings_16 (vp_updL lo (iI 0).toNatClampNeg (zL v_1)) (by
          first
          | (
             first | omega | (subst_vars; omega))
          | fail "q9") (by
          first
          | (
             intro h0
             first | (exfalso; omega) | ((try dsimp only); rw [zl_up]; subst_vars; rfl) | ((try dsimp only); rw [zl_up]; congr 1))
          | fail "q9") hw_7 (Nat.le_of_ble_eq_true rfl) (Nat.le_of_ble_eq_true rfl)
  rw [hH, hlo, hQ9] at goal_
  exact goal_

set_option maxHeartbeats 4000000 in
set_option maxRecDepth 100000 in
theorem c_L_lineAt (l : Launch) (hflags : l.stackTraces = false) (g : xg) (gl : ClassId × ClassId) (sz : Nat) (aR aG aP aH aY aT aS aF aX aXs aO : Nat) (pr tk tol hou tl ix : Int) (sg : Int → Int) (lo : Nat → Int64) (htl : 0 ≤ tl ∧ tl ≤ 40) (hb_sg : bnd sg 0 65535) (hr_ix : iR ix) : Met l yL_lineAt wsL_lineAt { frames := 7, cells := 1, slots := 6, locals := 113 } (va_Pc [.ref aR, .int (iI ix), .ref aO] (xBL g gl [(aR, .inr (10, [.ref aG, .ref aP, .ref aH, .ref aY, .ref aT, .ref aS, .ref aF, .ref aX, .int (iI pr), .int (iI tk), .int (iI tol), .int (iI hou)])), (aX, .inr (7, [.ref aXs, .int (iI tl)])), (aXs, .inl (gC g, 40, .inl (ar sg))), (aO, .inl (gl.1, 1, .inr (.inl lo)))] sz)) (va_Qi (fun r u => r = iI ((fun (u : (Nat → Int64)) => rgT tl ix) u) ∧ (fun (u : (Nat → Int64)) => (rgT tl ix = 0 → u 0 = zL (sg ix))) u) (fun u t => xE g (va_A [(aR, .inr (10, [.ref aG, .ref aP, .ref aH, .ref aY, .ref aT, .ref aS, .ref aF, .ref aX, .int (iI pr), .int (iI tk), .int (iI tol), .int (iI hou)])), (aX, .inr (7, [.ref aXs, .int (iI tl)])), (aXs, .inl (gC g, 40, .inl (ar sg))), (aO, .inl (gl.1, 1, .inr (.inl lo)))] sz) ((fun (u : (Nat → Int64)) => [(aR, .inr (10, [.ref aG, .ref aP, .ref aH, .ref aY, .ref aT, .ref aS, .ref aF, .ref aX, .int (iI pr), .int (iI tk), .int (iI tol), .int (iI hou)])), (aX, .inr (7, [.ref aXs, .int (iI tl)])), (aXs, .inl (gC g, 40, .inl (ar sg))), (aO, .inl (gl.1, 1, .inr (.inl u)))]) u) t) (va_A [(aR, .inr (10, [.ref aG, .ref aP, .ref aH, .ref aY, .ref aT, .ref aS, .ref aF, .ref aX, .int (iI pr), .int (iI tk), .int (iI tol), .int (iI hou)])), (aX, .inr (7, [.ref aXs, .int (iI tl)])), (aXs, .inl (gC g, 40, .inl (ar sg))), (aO, .inl (gl.1, 1, .inr (.inl lo)))] sz)) 1 6 (va_A [(aR, .inr (10, [.ref aG, .ref aP, .ref aH, .ref aY, .ref aT, .ref aS, .ref aF, .ref aX, .int (iI pr), .int (iI tk), .int (iI tol), .int (iI hou)])), (aX, .inr (7, [.ref aXs, .int (iI tl)])), (aXs, .inl (gC g, 40, .inl (ar sg))), (aO, .inl (gl.1, 1, .inr (.inl lo)))] sz) := by
  refine x_enterH (y := yL_lineAt) (ws := wsL_lineAt) (g := g) (sz := sz) (av := [.ref aR, .int (iI ix), .ref aO]) (WS := [(aR, .inr (10, [.ref aG, .ref aP, .ref aH, .ref aY, .ref aT, .ref aS, .ref aF, .ref aX, .int (iI pr), .int (iI tk), .int (iI tol), .int (iI hou)])), (aX, .inr (7, [.ref aXs, .int (iI tl)])), (aXs, .inl (gC g, 40, .inl (ar sg))), (aO, .inl (gl.1, 1, .inr (.inl lo)))]) (cc := cL_lineAt) (maxL := 4) (ret := some .int) (Qc := (fun A => (va_Qi (fun r u => r = iI ((fun (u : (Nat → Int64)) => rgT tl ix) u) ∧ (fun (u : (Nat → Int64)) => (rgT tl ix = 0 → u 0 = zL (sg ix))) u) (fun u t => xE g A ((fun (u : (Nat → Int64)) => [(aR, .inr (10, [.ref aG, .ref aP, .ref aH, .ref aY, .ref aT, .ref aS, .ref aF, .ref aX, .int (iI pr), .int (iI tk), .int (iI tol), .int (iI hou)])), (aX, .inr (7, [.ref aXs, .int (iI tl)])), (aXs, .inl (gC g, 40, .inl (ar sg))), (aO, .inl (gl.1, 1, .inr (.inl u)))]) u) t) A))) (by decide) rfl (Nat.le_of_ble_eq_true rfl) ?_
  intro p e s m args below meth c A ls hx hb hr hml hown hts hlocks htab hL hC hP hD hS hA hl
  have hK := hC.1
  have hown : s.vm.findClass RL = some m.cls := hown
  have hl : lv_has ls 4 [(0, .ref aR), (1, .int (iI ix)), (2, .ref aO)] := hl
  obtain ⟨H, hH⟩ : ∃ z, z = s.heap := ⟨_, rfl⟩
  obtain ⟨locs, hlo⟩ : ∃ z : List Loc, z = [] := ⟨_, rfl⟩
  obtain ⟨Q9, hQ9⟩ : ∃ z, z = MQ below (va_Qi (fun r u => r = iI ((fun (u : (Nat → Int64)) => rgT tl ix) u) ∧ (fun (u : (Nat → Int64)) => (rgT tl ix = 0 → u 0 = zL (sg ix))) u) (fun u t => xE g A ((fun (u : (Nat → Int64)) => [(aR, .inr (10, [.ref aG, .ref aP, .ref aH, .ref aY, .ref aT, .ref aS, .ref aF, .ref aX, .int (iI pr), .int (iI tk), .int (iI tol), .int (iI hou)])), (aX, .inr (7, [.ref aXs, .int (iI tl)])), (aXs, .inl (gC g, 40, .inl (ar sg))), (aO, .inl (gl.1, 1, .inr (.inl u)))]) u) t) A) args s 1 6 A := ⟨_, rfl⟩
  have hP : va_P (gD g) vwCl [(aR, .inr (10, [.ref aG, .ref aP, .ref aH, .ref aY, .ref aT, .ref aS, .ref aF, .ref aX, .int (iI pr), .int (iI tk), .int (iI tol), .int (iI hou)])), (aX, .inr (7, [.ref aXs, .int (iI tl)])), (aXs, .inl (gC g, 40, .inl (ar sg))), (aO, .inl (gl.1, 1, .inr (.inl lo)))] H := by rw [hH]; exact hP
  have hS : va_S A s.heap H locs := by rw [hH, hlo]; exact hS
  have goal_ : W p l e { frames := 7, cells := 1, slots := 6, locals := 113 } s m args below meth c H locs 0 0 Q9 (F0 m 0 ls []) := by
    clear hH hlo
    refine lv_aload_n hx hb dL_lineAt_0 rfl (lv_at hl 2 rfl) ?_
    refine x_iconst hx hb dL_lineAt_1 ?_
    refine lv_aload_n hx hb dL_lineAt_2 rfl (lv_at hl 0 rfl) ?_
    refine lv_iload_n hx hb dL_lineAt_3 rfl (lv_at hl 1 rfl) ?_
    refine x_calliX (S := Unit) (SX := Unit) (wc := [(aR, .inr (10, [.ref aG, .ref aP, .ref aH, .ref aY, .ref aT, .ref aS, .ref aF, .ref aX, .int (iI pr), .int (iI tk), .int (iI tol), .int (iI hou)])), (aX, .inr (7, [.ref aXs, .int (iI tl)])), (aXs, .inl (gC g, 40, .inl (ar sg)))]) (wr := [(aO, .inl (gl.1, 1, .inr (.inl lo)))]) hC hP hD hS hA [0, 1, 2] [3] [1, 2, 3, 0] rfl rfl (fun hpre => vx_runV (As := [.int (iI ix)]) (rest := [.int (iI 0), .ref aO]) ⟨hx, hb, hml, hown, hts⟩ (c_X8_lineAt l hflags g H.size aR aG aP aH aY aT aS aF aX aXs pr tk tol hou tl ix sg (by first | (first | assumption | omega | exact bnd_up (by assumption) (by omega) (by omega)) | fail "q8") (by first | (first | assumption | omega | exact bnd_up (by assumption) (by omega) (by omega)) | fail "q8") (by first | (first | assumption | omega | exact bnd_up (by assumption) (by omega) (by omega)) | fail "q8")) (cwV 1 hts gL_lineAt_X8_lineAt rfl rfl rfl (by decide +kernel) ⟨Nat.le_of_ble_eq_true rfl, Nat.le_of_ble_eq_true rfl⟩) ⟨xB_blind, va_recv hK hP (ci := 10) (q0 := 0) rfl rfl, hpre _⟩ rfl rfl hl.1 rfl (lv_room (Nat.le_of_ble_eq_true rfl)) dL_lineAt_4 ⟨Nat.le_of_ble_eq_true rfl, Nat.le_of_ble_eq_true rfl⟩) (fun (u : Unit) => [(aR, .inr (10, [.ref aG, .ref aP, .ref aH, .ref aY, .ref aT, .ref aS, .ref aF, .ref aX, .int (iI pr), .int (iI tk), .int (iI tol), .int (iI hou)])), (aX, .inr (7, [.ref aXs, .int (iI tl)])), (aXs, .inl (gC g, 40, .inl (ar sg))), (aO, .inl (gl.1, 1, .inr (.inl lo)))]) (fun (u : Unit) => ([(aR, .inr (10, [.ref aG, .ref aP, .ref aH, .ref aY, .ref aT, .ref aS, .ref aF, .ref aX, .int (iI pr), .int (iI tk), .int (iI tol), .int (iI hou)])), (aX, .inr (7, [.ref aXs, .int (iI tl)])), (aXs, .inl (gC g, 40, .inl (ar sg))), (aO, .inl (gl.1, 1, .inr (.inl lo)))] : va_W)) rfl rfl (by decide) (fun _ => rfl) (fun _ => rfl) rfl (fun E ce q9 u H locs hXP hPX hP hD hS hcell hv9 hcl => ?_) (fun u v_1 H locs hv_1 pv_1 hP hD hS => ?_)
    · skip
      have hP : va_P (gD g) vwCl [(aR, .inr (10, [.ref aG, .ref aP, .ref aH, .ref aY, .ref aT, .ref aS, .ref aF, .ref aX, .int (iI pr), .int (iI tk), .int (iI tol), .int (iI hou)])), (aX, .inr (7, [.ref aXs, .int (iI tl)])), (aXs, .inl (gC g, 40, .inl (ar sg))), (aO, .inl (gl.1, 1, .inr (.inl lo)))] H := hP
      have hD : va_D A [(aR, .inr (10, [.ref aG, .ref aP, .ref aH, .ref aY, .ref aT, .ref aS, .ref aF, .ref aX, .int (iI pr), .int (iI tk), .int (iI tol), .int (iI hou)])), (aX, .inr (7, [.ref aXs, .int (iI tl)])), (aXs, .inl (gC g, 40, .inl (ar sg))), (aO, .inl (gl.1, 1, .inr (.inl lo)))] := hD
      obtain ⟨hE, hp⟩ := hPX
      have hp : rgT tl ix = 1 := hp
      subst hE
      refine vx_catch (E := "java/lang/IndexOutOfBoundsException") (name := "java/lang/IndexOutOfBoundsException") hown [] ⟨0, 9, 12, 24⟩ [] (by rw [htab]; rfl) (fun z hz => by cases hz) (by decide) (by decide) (hts (.classLink RL 24 "java/lang/IndexOutOfBoundsException") (List.mem_of_getElem? (i := 1) rfl)) (va_Nw.use rfl (hC.2.2.2.2.2.2.2.2.2.2.1 "java/lang/IndexOutOfBoundsException" (List.mem_of_getElem? (i := 2) rfl))) hcell hv9 hcl ?_
      refine lv_astore_n (lv' := [(3, .ref q9), (0, .ref aR), (1, .int (iI ix)), (2, .ref aO)]) hx hb dL_lineAt_12 rfl hl (by decide) rfl (fun ls hl => ?_)
      refine x_iconst hx hb dL_lineAt_13 ?_
      rw [hQ9]
      exact x_iret hx hb hr hlocks hP hD hS (S := (Nat → Int64)) rfl dL_lineAt_14 lo (by
          first
          | (
             first | omega | (subst_vars; omega))
          | fail "q9") (by
          first
          | (
             intro h0
             first | (exfalso; omega) | ((try dsimp only); rw [zl_up]; subst_vars; rfl) | ((try dsimp only); rw [zl_up]; congr 1))
          | fail "q9") rfl (Nat.le_of_ble_eq_true rfl) (Nat.le_of_ble_eq_true rfl)
    · skip
      have hP : va_P (gD g) vwCl [(aR, .inr (10, [.ref aG, .ref aP, .ref aH, .ref aY, .ref aT, .ref aS, .ref aF, .ref aX, .int (iI pr), .int (iI tk), .int (iI tol), .int (iI hou)])), (aX, .inr (7, [.ref aXs, .int (iI tl)])), (aXs, .inl (gC g, 40, .inl (ar sg))), (aO, .inl (gl.1, 1, .inr (.inl lo)))] H := hP
      have hD : va_D A [(aR, .inr (10, [.ref aG, .ref aP, .ref aH, .ref aY, .ref aT, .ref aS, .ref aF, .ref aX, .int (iI pr), .int (iI tk), .int (iI tol), .int (iI hou)])), (aX, .inr (7, [.ref aXs, .int (iI tl)])), (aXs, .inl (gC g, 40, .inl (ar sg))), (aO, .inl (gl.1, 1, .inr (.inl lo)))] := hD
      have hv_1 : v_1 = sg ix := hv_1
      obtain ⟨tv_1, pv_1⟩ := pv_1
      have tv_1 : rgT tl ix = 0 := tv_1
      refine x_i2z hx hb dL_lineAt_7 ?_
      refine va_last hx hb hL.1 hP hD hS 3 0 rfl rfl zl_in dL_lineAt_8 (fun H locs hP hD hS => ?_)
      have hP : va_P (gD g) vwCl [(aR, .inr (10, [.ref aG, .ref aP, .ref aH, .ref aY, .ref aT, .ref aS, .ref aF, .ref aX, .int (iI pr), .int (iI tk), .int (iI tol), .int (iI hou)])), (aX, .inr (7, [.ref aXs, .int (iI tl)])), (aXs, .inl (gC g, 40, .inl (ar sg))), (aO, .inl (gl.1, 1, .inr (.inl (vp_updL lo (iI 0).toNatClampNeg (zL v_1)))))] H := hP
      have hD : va_D A [(aR, .inr (10, [.ref aG, .ref aP, .ref aH, .ref aY, .ref aT, .ref aS, .ref aF, .ref aX, .int (iI pr), .int (iI tk), .int (iI tol), .int (iI hou)])), (aX, .inr (7, [.ref aXs, .int (iI tl)])), (aXs, .inl (gC g, 40, .inl (ar sg))), (aO, .inl (gl.1, 1, .inr (.inl (vp_updL lo (iI 0).toNatClampNeg (zL v_1)))))] := hD
      refine lv_goto (tgt := 15) hx hb dL_lineAt_9 (by decide) ?_
      refine x_iconst hx hb dL_lineAt_15 ?_
      rw [hQ9]
      exact x_iret hx hb hr hlocks hP hD hS (S := (Nat → Int64)) rfl dL_lineAt_16 (vp_updL lo (iI 0).toNatClampNeg (zL v_1)) (by
          first
          | (
             first | omega | (subst_vars; omega))
          | fail "q9") (by
          first
          | (
             intro h0
             first | (exfalso; omega) | ((try dsimp only); rw [zl_up]; subst_vars; rfl) | ((try dsimp only); rw [zl_up]; congr 1))
          | fail "q9") rfl (Nat.le_of_ble_eq_true rfl) (Nat.le_of_ble_eq_true rfl)
  rw [hH, hlo, hQ9] at goal_
  exact goal_

set_option maxHeartbeats 4000000 in
set_option maxRecDepth 100000 in
theorem c_L_curedShare (l : Launch) (hflags : l.stackTraces = false) (g : xg) (gl : ClassId × ClassId) (sz : Nat) (aR aG aP aH aY aT aS aF aX aYh aYt aYc aO : Nat) (pr tk tol hou : Int) (ht yc : Int → Int) (lo : Nat → UInt64) (hb_ht : bnd ht 0 12) (hhou : 0 ≤ hou ∧ hou ≤ 5000) (hb_yc : bnd yc 0 5000) : Met l yL_curedShare wsL_curedShare { frames := 7, cells := 1, slots := 6, locals := 113 } (va_Pc [.ref aR, .ref aO] (xBL g gl [(aR, .inr (10, [.ref aG, .ref aP, .ref aH, .ref aY, .ref aT, .ref aS, .ref aF, .ref aX, .int (iI pr), .int (iI tk), .int (iI tol), .int (iI hou)])), (aY, .inr (9, [.ref aYh, .ref aYt, .ref aYc])), (aYh, .inl (gI g, 3, .inl (ar ht))), (aYc, .inl (gI g, 36, .inl (ar yc))), (aO, .inl (gl.2, 1, .inr (.inr (.inr (.inl lo)))))] sz)) (va_Qi (fun r u => r = iI ((fun (u : (Nat → UInt64)) => bI (sumI ht 3 = 0)) u) ∧ (fun (u : (Nat → UInt64)) => (bI (sumI ht 3 = 0) = 0 → u 0 = FP.f2d (shF (sumI (cuF ht yc hou) 3) (sumI ht 3)))) u) (fun u t => xE g (va_A [(aR, .inr (10, [.ref aG, .ref aP, .ref aH, .ref aY, .ref aT, .ref aS, .ref aF, .ref aX, .int (iI pr), .int (iI tk), .int (iI tol), .int (iI hou)])), (aY, .inr (9, [.ref aYh, .ref aYt, .ref aYc])), (aYh, .inl (gI g, 3, .inl (ar ht))), (aYc, .inl (gI g, 36, .inl (ar yc))), (aO, .inl (gl.2, 1, .inr (.inr (.inr (.inl lo)))))] sz) ((fun (u : (Nat → UInt64)) => [(aR, .inr (10, [.ref aG, .ref aP, .ref aH, .ref aY, .ref aT, .ref aS, .ref aF, .ref aX, .int (iI pr), .int (iI tk), .int (iI tol), .int (iI hou)])), (aY, .inr (9, [.ref aYh, .ref aYt, .ref aYc])), (aYh, .inl (gI g, 3, .inl (ar ht))), (aYc, .inl (gI g, 36, .inl (ar yc))), (aO, .inl (gl.2, 1, .inr (.inr (.inr (.inl u)))))]) u) t) (va_A [(aR, .inr (10, [.ref aG, .ref aP, .ref aH, .ref aY, .ref aT, .ref aS, .ref aF, .ref aX, .int (iI pr), .int (iI tk), .int (iI tol), .int (iI hou)])), (aY, .inr (9, [.ref aYh, .ref aYt, .ref aYc])), (aYh, .inl (gI g, 3, .inl (ar ht))), (aYc, .inl (gI g, 36, .inl (ar yc))), (aO, .inl (gl.2, 1, .inr (.inr (.inr (.inl lo)))))] sz)) 1 6 (va_A [(aR, .inr (10, [.ref aG, .ref aP, .ref aH, .ref aY, .ref aT, .ref aS, .ref aF, .ref aX, .int (iI pr), .int (iI tk), .int (iI tol), .int (iI hou)])), (aY, .inr (9, [.ref aYh, .ref aYt, .ref aYc])), (aYh, .inl (gI g, 3, .inl (ar ht))), (aYc, .inl (gI g, 36, .inl (ar yc))), (aO, .inl (gl.2, 1, .inr (.inr (.inr (.inl lo)))))] sz) := by
  refine x_enterH (y := yL_curedShare) (ws := wsL_curedShare) (g := g) (sz := sz) (av := [.ref aR, .ref aO]) (WS := [(aR, .inr (10, [.ref aG, .ref aP, .ref aH, .ref aY, .ref aT, .ref aS, .ref aF, .ref aX, .int (iI pr), .int (iI tk), .int (iI tol), .int (iI hou)])), (aY, .inr (9, [.ref aYh, .ref aYt, .ref aYc])), (aYh, .inl (gI g, 3, .inl (ar ht))), (aYc, .inl (gI g, 36, .inl (ar yc))), (aO, .inl (gl.2, 1, .inr (.inr (.inr (.inl lo)))))]) (cc := cL_curedShare) (maxL := 3) (ret := some .int) (Qc := (fun A => (va_Qi (fun r u => r = iI ((fun (u : (Nat → UInt64)) => bI (sumI ht 3 = 0)) u) ∧ (fun (u : (Nat → UInt64)) => (bI (sumI ht 3 = 0) = 0 → u 0 = FP.f2d (shF (sumI (cuF ht yc hou) 3) (sumI ht 3)))) u) (fun u t => xE g A ((fun (u : (Nat → UInt64)) => [(aR, .inr (10, [.ref aG, .ref aP, .ref aH, .ref aY, .ref aT, .ref aS, .ref aF, .ref aX, .int (iI pr), .int (iI tk), .int (iI tol), .int (iI hou)])), (aY, .inr (9, [.ref aYh, .ref aYt, .ref aYc])), (aYh, .inl (gI g, 3, .inl (ar ht))), (aYc, .inl (gI g, 36, .inl (ar yc))), (aO, .inl (gl.2, 1, .inr (.inr (.inr (.inl u)))))]) u) t) A))) (by decide) rfl (Nat.le_of_ble_eq_true rfl) ?_
  intro p e s m args below meth c A ls hx hb hr hml hown hts hlocks htab hL hC hP hD hS hA hl
  have hK := hC.1
  have hown : s.vm.findClass RL = some m.cls := hown
  have hl : lv_has ls 3 [(0, .ref aR), (1, .ref aO)] := hl
  obtain ⟨H, hH⟩ : ∃ z, z = s.heap := ⟨_, rfl⟩
  obtain ⟨locs, hlo⟩ : ∃ z : List Loc, z = [] := ⟨_, rfl⟩
  obtain ⟨Q9, hQ9⟩ : ∃ z, z = MQ below (va_Qi (fun r u => r = iI ((fun (u : (Nat → UInt64)) => bI (sumI ht 3 = 0)) u) ∧ (fun (u : (Nat → UInt64)) => (bI (sumI ht 3 = 0) = 0 → u 0 = FP.f2d (shF (sumI (cuF ht yc hou) 3) (sumI ht 3)))) u) (fun u t => xE g A ((fun (u : (Nat → UInt64)) => [(aR, .inr (10, [.ref aG, .ref aP, .ref aH, .ref aY, .ref aT, .ref aS, .ref aF, .ref aX, .int (iI pr), .int (iI tk), .int (iI tol), .int (iI hou)])), (aY, .inr (9, [.ref aYh, .ref aYt, .ref aYc])), (aYh, .inl (gI g, 3, .inl (ar ht))), (aYc, .inl (gI g, 36, .inl (ar yc))), (aO, .inl (gl.2, 1, .inr (.inr (.inr (.inl u)))))]) u) t) A) args s 1 6 A := ⟨_, rfl⟩
  have hP : va_P (gD g) vwCl [(aR, .inr (10, [.ref aG, .ref aP, .ref aH, .ref aY, .ref aT, .ref aS, .ref aF, .ref aX, .int (iI pr), .int (iI tk), .int (iI tol), .int (iI hou)])), (aY, .inr (9, [.ref aYh, .ref aYt, .ref aYc])), (aYh, .inl (gI g, 3, .inl (ar ht))), (aYc, .inl (gI g, 36, .inl (ar yc))), (aO, .inl (gl.2, 1, .inr (.inr (.inr (.inl lo)))))] H := by rw [hH]; exact hP
  have hS : va_S A s.heap H locs := by rw [hH, hlo]; exact hS
  have goal_ : W p l e { frames := 7, cells := 1, slots := 6, locals := 113 } s m args below meth c H locs 0 0 Q9 (F0 m 0 ls []) := by
    clear hH hlo
    refine lv_aload_n hx hb dL_curedShare_0 rfl (lv_at hl 1 rfl) ?_
    refine x_iconst hx hb dL_curedShare_1 ?_
    refine lv_aload_n hx hb dL_curedShare_2 rfl (lv_at hl 0 rfl) ?_
    refine x_callfX (S := Unit) (SX := Unit) (wc := [(aR, .inr (10, [.ref aG, .ref aP, .ref aH, .ref aY, .ref aT, .ref aS, .ref aF, .ref aX, .int (iI pr), .int (iI tk), .int (iI tol), .int (iI hou)])), (aY, .inr (9, [.ref aYh, .ref aYt, .ref aYc])), (aYh, .inl (gI g, 3, .inl (ar ht))), (aYc, .inl (gI g, 36, .inl (ar yc)))]) (wr := [(aO, .inl (gl.2, 1, .inr (.inr (.inr (.inl lo)))))]) hC hP hD hS hA [0, 1, 2, 3] [4] [1, 2, 3, 4, 0] rfl rfl (fun hpre => vx_runV (As := []) (rest := [.int (iI 0), .ref aO]) ⟨hx, hb, hml, hown, hts⟩ (c_X8_curedShare l hflags g H.size aR aG aP aH aY aT aS aF aX aYh aYt aYc pr tk tol hou ht yc (by first | (first | assumption | omega | exact bnd_up (by assumption) (by omega) (by omega)) | fail "q8") (by first | (first | assumption | omega | exact bnd_up (by assumption) (by omega) (by omega)) | fail "q8") (by first | (first | assumption | omega | exact bnd_up (by assumption) (by omega) (by omega)) | fail "q8")) (cwV 0 hts gL_curedShare_X8_curedShare rfl rfl rfl (by decide +kernel) ⟨Nat.le_of_ble_eq_true rfl, Nat.le_of_ble_eq_true rfl⟩) ⟨xB_blind, va_recv hK hP (ci := 10) (q0 := 0) rfl rfl, hpre _⟩ rfl rfl hl.1 rfl (lv_room (Nat.le_of_ble_eq_true rfl)) dL_curedShare_3 ⟨Nat.le_of_ble_eq_true rfl, Nat.le_of_ble_eq_true rfl⟩) (fun (u : Unit) => [(aR, .inr (10, [.ref aG, .ref aP, .ref aH, .ref aY, .ref aT, .ref aS, .ref aF, .ref aX, .int (iI pr), .int (iI tk), .int (iI tol), .int (iI hou)])), (aY, .inr (9, [.ref aYh, .ref aYt, .ref aYc])), (aYh, .inl (gI g, 3, .inl (ar ht))), (aYc, .inl (gI g, 36, .inl (ar yc))), (aO, .inl (gl.2, 1, .inr (.inr (.inr (.inl lo)))))]) (fun (u : Unit) => ([(aR, .inr (10, [.ref aG, .ref aP, .ref aH, .ref aY, .ref aT, .ref aS, .ref aF, .ref aX, .int (iI pr), .int (iI tk), .int (iI tol), .int (iI hou)])), (aY, .inr (9, [.ref aYh, .ref aYt, .ref aYc])), (aYh, .inl (gI g, 3, .inl (ar ht))), (aYc, .inl (gI g, 36, .inl (ar yc))), (aO, .inl (gl.2, 1, .inr (.inr (.inr (.inl lo)))))] : va_W)) rfl rfl (by decide) (fun _ => rfl) (fun _ => rfl) rfl (fun E ce q9 u H locs hXP hPX hP hD hS hcell hv9 hcl => ?_) (fun u v_1 H locs hv_1 pv_1 hP hD hS => ?_)
    · skip
      have hP : va_P (gD g) vwCl [(aR, .inr (10, [.ref aG, .ref aP, .ref aH, .ref aY, .ref aT, .ref aS, .ref aF, .ref aX, .int (iI pr), .int (iI tk), .int (iI tol), .int (iI hou)])), (aY, .inr (9, [.ref aYh, .ref aYt, .ref aYc])), (aYh, .inl (gI g, 3, .inl (ar ht))), (aYc, .inl (gI g, 36, .inl (ar yc))), (aO, .inl (gl.2, 1, .inr (.inr (.inr (.inl lo)))))] H := hP
      have hD : va_D A [(aR, .inr (10, [.ref aG, .ref aP, .ref aH, .ref aY, .ref aT, .ref aS, .ref aF, .ref aX, .int (iI pr), .int (iI tk), .int (iI tol), .int (iI hou)])), (aY, .inr (9, [.ref aYh, .ref aYt, .ref aYc])), (aYh, .inl (gI g, 3, .inl (ar ht))), (aYc, .inl (gI g, 36, .inl (ar yc))), (aO, .inl (gl.2, 1, .inr (.inr (.inr (.inl lo)))))] := hD
      obtain ⟨hE, hp⟩ := hPX
      have hp : sumI ht 3 = 0 := hp
      subst hE
      refine vx_catch (E := "java/lang/ArithmeticException") (name := "java/lang/ArithmeticException") hown [] ⟨0, 8, 11, 55⟩ [] (by rw [htab]; rfl) (fun z hz => by cases hz) (by decide) (by decide) (hts (.classLink RL 55 "java/lang/ArithmeticException") (List.mem_of_getElem? (i := 1) rfl)) (va_Nw.use rfl (hC.2.2.2.2.2.2.2.2.2.2.1 "java/lang/ArithmeticException" (List.mem_of_getElem? (i := 4) rfl))) hcell hv9 hcl ?_
      refine lv_astore_n (lv' := [(2, .ref q9), (0, .ref aR), (1, .ref aO)]) hx hb dL_curedShare_11 rfl hl (by decide) rfl (fun ls hl => ?_)
      refine x_iconst hx hb dL_curedShare_12 ?_
      rw [hQ9]
      exact x_iret hx hb hr hlocks hP hD hS (S := (Nat → UInt64)) rfl dL_curedShare_13 lo (by
          first
          | (
             unfold bI
             first | (rw [if_pos (by omega)]) | (rw [if_neg (by omega)]))
          | fail "q9") (by
          first
          | (
             intro h0
             first | (exfalso; unfold bI at h0; rw [if_pos (by omega)] at h0; omega) | (rw [zl_upD]; subst_vars; rfl))
          | fail "q9") rfl (Nat.le_of_ble_eq_true rfl) (Nat.le_of_ble_eq_true rfl)
    · skip
      have hP : va_P (gD g) vwCl [(aR, .inr (10, [.ref aG, .ref aP, .ref aH, .ref aY, .ref aT, .ref aS, .ref aF, .ref aX, .int (iI pr), .int (iI tk), .int (iI tol), .int (iI hou)])), (aY, .inr (9, [.ref aYh, .ref aYt, .ref aYc])), (aYh, .inl (gI g, 3, .inl (ar ht))), (aYc, .inl (gI g, 36, .inl (ar yc))), (aO, .inl (gl.2, 1, .inr (.inr (.inr (.inl lo)))))] H := hP
      have hD : va_D A [(aR, .inr (10, [.ref aG, .ref aP, .ref aH, .ref aY, .ref aT, .ref aS, .ref aF, .ref aX, .int (iI pr), .int (iI tk), .int (iI tol), .int (iI hou)])), (aY, .inr (9, [.ref aYh, .ref aYt, .ref aYc])), (aYh, .inl (gI g, 3, .inl (ar ht))), (aYc, .inl (gI g, 36, .inl (ar yc))), (aO, .inl (gl.2, 1, .inr (.inr (.inr (.inl lo)))))] := hD
      have hv_1 : v_1 = shF (sumI (cuF ht yc hou) 3) (sumI ht 3) := hv_1
      obtain ⟨tv_1, pv_1⟩ := pv_1
      have tv_1 : sumI ht 3 ≠ 0 := tv_1
      refine lv_f2d hx hb dL_curedShare_6 (by
          first
          | (
             rw [hv_1]
             exact zf_f2d (shF_n (cuF_b hb_ht) (sumI_b (n := 3) (B := 12) hb_ht (by omega))))
          | fail "q9") ?_
      refine va_dast hx hb hL.1 hP hD hS 4 1 rfl rfl zl_in dL_curedShare_7 (fun H locs hP hD hS => ?_)
      have hP : va_P (gD g) vwCl [(aR, .inr (10, [.ref aG, .ref aP, .ref aH, .ref aY, .ref aT, .ref aS, .ref aF, .ref aX, .int (iI pr), .int (iI tk), .int (iI tol), .int (iI hou)])), (aY, .inr (9, [.ref aYh, .ref aYt, .ref aYc])), (aYh, .inl (gI g, 3, .inl (ar ht))), (aYc, .inl (gI g, 36, .inl (ar yc))), (aO, .inl (gl.2, 1, .inr (.inr (.inr (.inl (vf_upd lo (iI 0).toNatClampNeg (FP.f2d (v_1))))))))] H := hP
      have hD : va_D A [(aR, .inr (10, [.ref aG, .ref aP, .ref aH, .ref aY, .ref aT, .ref aS, .ref aF, .ref aX, .int (iI pr), .int (iI tk), .int (iI tol), .int (iI hou)])), (aY, .inr (9, [.ref aYh, .ref aYt, .ref aYc])), (aYh, .inl (gI g, 3, .inl (ar ht))), (aYc, .inl (gI g, 36, .inl (ar yc))), (aO, .inl (gl.2, 1, .inr (.inr (.inr (.inl (vf_upd lo (iI 0).toNatClampNeg (FP.f2d (v_1))))))))] := hD
      refine lv_goto (tgt := 14) hx hb dL_curedShare_8 (by decide) ?_
      refine x_iconst hx hb dL_curedShare_14 ?_
      rw [hQ9]
      exact x_iret hx hb hr hlocks hP hD hS (S := (Nat → UInt64)) rfl dL_curedShare_15 (vf_upd lo (iI 0).toNatClampNeg (FP.f2d (v_1))) (by
          first
          | (
             unfold bI
             first | (rw [if_pos (by omega)]) | (rw [if_neg (by omega)]))
          | fail "q9") (by
          first
          | (
             intro h0
             first | (exfalso; unfold bI at h0; rw [if_pos (by omega)] at h0; omega) | (rw [zl_upD]; subst_vars; rfl))
          | fail "q9") rfl (Nat.le_of_ble_eq_true rfl) (Nat.le_of_ble_eq_true rfl)
  rw [hH, hlo, hQ9] at goal_
  exact goal_

set_option maxHeartbeats 4000000 in
set_option maxRecDepth 100000 in
theorem c_L_meanSinking (l : Launch) (hflags : l.stackTraces = false) (g : xg) (gl : ClassId × ClassId) (sz : Nat) (aR aG aP aH aY aT aS aF aX aGn aGw aGs aTp aTt aTx aTy aE aO : Nat) (pr tk tol hou kn ld : Int) (sk : Int → Int) (lo : Nat → UInt64) (hkn : 0 ≤ kn ∧ kn ≤ 200) (hld : 0 ≤ ld ∧ ld ≤ 200) (hb_sk : bnd sk 0 500000) (hlk : ld ≤ kn) : Met l yL_meanSinking wsL_meanSinking { frames := 7, cells := 1, slots := 6, locals := 114 } (va_Pc [.ref aR, .ref aO] (xBL g gl [(aR, .inr (10, [.ref aG, .ref aP, .ref aH, .ref aY, .ref aT, .ref aS, .ref aF, .ref aX, .int (iI pr), .int (iI tk), .int (iI tol), .int (iI hou)])), (aG, .inr (3, [.ref aGn, .ref aGw, .ref aGs, .int (iI kn)])), (aGs, .inl (gI g, 200, .inl (ar sk))), (aT, .inr (8, [.ref aTp, .ref aTt, .ref aTx, .ref aTy, .ref aE, .int (iI ld)])), (aO, .inl (gl.2, 1, .inr (.inr (.inr (.inl lo)))))] sz)) (va_Qi (fun r u => r = iI ((fun (u : (Nat → UInt64)) => bI (ld = 0)) u) ∧ (fun (u : (Nat → UInt64)) => (bI (ld = 0) = 0 → u 0 = mnD (sumI sk ld) ld)) u) (fun u t => xE g (va_A [(aR, .inr (10, [.ref aG, .ref aP, .ref aH, .ref aY, .ref aT, .ref aS, .ref aF, .ref aX, .int (iI pr), .int (iI tk), .int (iI tol), .int (iI hou)])), (aG, .inr (3, [.ref aGn, .ref aGw, .ref aGs, .int (iI kn)])), (aGs, .inl (gI g, 200, .inl (ar sk))), (aT, .inr (8, [.ref aTp, .ref aTt, .ref aTx, .ref aTy, .ref aE, .int (iI ld)])), (aO, .inl (gl.2, 1, .inr (.inr (.inr (.inl lo)))))] sz) ((fun (u : (Nat → UInt64)) => [(aR, .inr (10, [.ref aG, .ref aP, .ref aH, .ref aY, .ref aT, .ref aS, .ref aF, .ref aX, .int (iI pr), .int (iI tk), .int (iI tol), .int (iI hou)])), (aG, .inr (3, [.ref aGn, .ref aGw, .ref aGs, .int (iI kn)])), (aGs, .inl (gI g, 200, .inl (ar sk))), (aT, .inr (8, [.ref aTp, .ref aTt, .ref aTx, .ref aTy, .ref aE, .int (iI ld)])), (aO, .inl (gl.2, 1, .inr (.inr (.inr (.inl u)))))]) u) t) (va_A [(aR, .inr (10, [.ref aG, .ref aP, .ref aH, .ref aY, .ref aT, .ref aS, .ref aF, .ref aX, .int (iI pr), .int (iI tk), .int (iI tol), .int (iI hou)])), (aG, .inr (3, [.ref aGn, .ref aGw, .ref aGs, .int (iI kn)])), (aGs, .inl (gI g, 200, .inl (ar sk))), (aT, .inr (8, [.ref aTp, .ref aTt, .ref aTx, .ref aTy, .ref aE, .int (iI ld)])), (aO, .inl (gl.2, 1, .inr (.inr (.inr (.inl lo)))))] sz)) 1 6 (va_A [(aR, .inr (10, [.ref aG, .ref aP, .ref aH, .ref aY, .ref aT, .ref aS, .ref aF, .ref aX, .int (iI pr), .int (iI tk), .int (iI tol), .int (iI hou)])), (aG, .inr (3, [.ref aGn, .ref aGw, .ref aGs, .int (iI kn)])), (aGs, .inl (gI g, 200, .inl (ar sk))), (aT, .inr (8, [.ref aTp, .ref aTt, .ref aTx, .ref aTy, .ref aE, .int (iI ld)])), (aO, .inl (gl.2, 1, .inr (.inr (.inr (.inl lo)))))] sz) := by
  refine x_enterH (y := yL_meanSinking) (ws := wsL_meanSinking) (g := g) (sz := sz) (av := [.ref aR, .ref aO]) (WS := [(aR, .inr (10, [.ref aG, .ref aP, .ref aH, .ref aY, .ref aT, .ref aS, .ref aF, .ref aX, .int (iI pr), .int (iI tk), .int (iI tol), .int (iI hou)])), (aG, .inr (3, [.ref aGn, .ref aGw, .ref aGs, .int (iI kn)])), (aGs, .inl (gI g, 200, .inl (ar sk))), (aT, .inr (8, [.ref aTp, .ref aTt, .ref aTx, .ref aTy, .ref aE, .int (iI ld)])), (aO, .inl (gl.2, 1, .inr (.inr (.inr (.inl lo)))))]) (cc := cL_meanSinking) (maxL := 3) (ret := some .int) (Qc := (fun A => (va_Qi (fun r u => r = iI ((fun (u : (Nat → UInt64)) => bI (ld = 0)) u) ∧ (fun (u : (Nat → UInt64)) => (bI (ld = 0) = 0 → u 0 = mnD (sumI sk ld) ld)) u) (fun u t => xE g A ((fun (u : (Nat → UInt64)) => [(aR, .inr (10, [.ref aG, .ref aP, .ref aH, .ref aY, .ref aT, .ref aS, .ref aF, .ref aX, .int (iI pr), .int (iI tk), .int (iI tol), .int (iI hou)])), (aG, .inr (3, [.ref aGn, .ref aGw, .ref aGs, .int (iI kn)])), (aGs, .inl (gI g, 200, .inl (ar sk))), (aT, .inr (8, [.ref aTp, .ref aTt, .ref aTx, .ref aTy, .ref aE, .int (iI ld)])), (aO, .inl (gl.2, 1, .inr (.inr (.inr (.inl u)))))]) u) t) A))) (by decide) rfl (Nat.le_of_ble_eq_true rfl) ?_
  intro p e s m args below meth c A ls hx hb hr hml hown hts hlocks htab hL hC hP hD hS hA hl
  have hK := hC.1
  have hown : s.vm.findClass RL = some m.cls := hown
  have hl : lv_has ls 3 [(0, .ref aR), (1, .ref aO)] := hl
  obtain ⟨H, hH⟩ : ∃ z, z = s.heap := ⟨_, rfl⟩
  obtain ⟨locs, hlo⟩ : ∃ z : List Loc, z = [] := ⟨_, rfl⟩
  obtain ⟨Q9, hQ9⟩ : ∃ z, z = MQ below (va_Qi (fun r u => r = iI ((fun (u : (Nat → UInt64)) => bI (ld = 0)) u) ∧ (fun (u : (Nat → UInt64)) => (bI (ld = 0) = 0 → u 0 = mnD (sumI sk ld) ld)) u) (fun u t => xE g A ((fun (u : (Nat → UInt64)) => [(aR, .inr (10, [.ref aG, .ref aP, .ref aH, .ref aY, .ref aT, .ref aS, .ref aF, .ref aX, .int (iI pr), .int (iI tk), .int (iI tol), .int (iI hou)])), (aG, .inr (3, [.ref aGn, .ref aGw, .ref aGs, .int (iI kn)])), (aGs, .inl (gI g, 200, .inl (ar sk))), (aT, .inr (8, [.ref aTp, .ref aTt, .ref aTx, .ref aTy, .ref aE, .int (iI ld)])), (aO, .inl (gl.2, 1, .inr (.inr (.inr (.inl u)))))]) u) t) A) args s 1 6 A := ⟨_, rfl⟩
  have hP : va_P (gD g) vwCl [(aR, .inr (10, [.ref aG, .ref aP, .ref aH, .ref aY, .ref aT, .ref aS, .ref aF, .ref aX, .int (iI pr), .int (iI tk), .int (iI tol), .int (iI hou)])), (aG, .inr (3, [.ref aGn, .ref aGw, .ref aGs, .int (iI kn)])), (aGs, .inl (gI g, 200, .inl (ar sk))), (aT, .inr (8, [.ref aTp, .ref aTt, .ref aTx, .ref aTy, .ref aE, .int (iI ld)])), (aO, .inl (gl.2, 1, .inr (.inr (.inr (.inl lo)))))] H := by rw [hH]; exact hP
  have hS : va_S A s.heap H locs := by rw [hH, hlo]; exact hS
  have goal_ : W p l e { frames := 7, cells := 1, slots := 6, locals := 114 } s m args below meth c H locs 0 0 Q9 (F0 m 0 ls []) := by
    clear hH hlo
    refine lv_aload_n hx hb dL_meanSinking_0 rfl (lv_at hl 1 rfl) ?_
    refine x_iconst hx hb dL_meanSinking_1 ?_
    refine lv_aload_n hx hb dL_meanSinking_2 rfl (lv_at hl 0 rfl) ?_
    refine x_calldX (S := Unit) (SX := Unit) (wc := [(aR, .inr (10, [.ref aG, .ref aP, .ref aH, .ref aY, .ref aT, .ref aS, .ref aF, .ref aX, .int (iI pr), .int (iI tk), .int (iI tol), .int (iI hou)])), (aG, .inr (3, [.ref aGn, .ref aGw, .ref aGs, .int (iI kn)])), (aGs, .inl (gI g, 200, .inl (ar sk))), (aT, .inr (8, [.ref aTp, .ref aTt, .ref aTx, .ref aTy, .ref aE, .int (iI ld)]))]) (wr := [(aO, .inl (gl.2, 1, .inr (.inr (.inr (.inl lo)))))]) hC hP hD hS hA [0, 1, 2, 3] [4] [1, 2, 3, 4, 0] rfl rfl (fun hpre => vx_runV (As := []) (rest := [.int (iI 0), .ref aO]) ⟨hx, hb, hml, hown, hts⟩ (c_X8_meanSinking l hflags g H.size aR aG aP aH aY aT aS aF aX aGn aGw aGs aTp aTt aTx aTy aE pr tk tol hou kn ld sk (by first | (first | assumption | omega | exact bnd_up (by assumption) (by omega) (by omega)) | fail "q8") (by first | (first | assumption | omega | exact bnd_up (by assumption) (by omega) (by omega)) | fail "q8") (by first | (first | assumption | omega | exact bnd_up (by assumption) (by omega) (by omega)) | fail "q8") (by first | (first | assumption | omega | exact bnd_up (by assumption) (by omega) (by omega)) | fail "q8")) (cwV 0 hts gL_meanSinking_X8_meanSinking rfl rfl rfl (by decide +kernel) ⟨Nat.le_of_ble_eq_true rfl, Nat.le_of_ble_eq_true rfl⟩) ⟨xB_blind, va_recv hK hP (ci := 10) (q0 := 0) rfl rfl, hpre _⟩ rfl rfl hl.1 rfl (lv_room (Nat.le_of_ble_eq_true rfl)) dL_meanSinking_3 ⟨Nat.le_of_ble_eq_true rfl, Nat.le_of_ble_eq_true rfl⟩) (fun (u : Unit) => [(aR, .inr (10, [.ref aG, .ref aP, .ref aH, .ref aY, .ref aT, .ref aS, .ref aF, .ref aX, .int (iI pr), .int (iI tk), .int (iI tol), .int (iI hou)])), (aG, .inr (3, [.ref aGn, .ref aGw, .ref aGs, .int (iI kn)])), (aGs, .inl (gI g, 200, .inl (ar sk))), (aT, .inr (8, [.ref aTp, .ref aTt, .ref aTx, .ref aTy, .ref aE, .int (iI ld)])), (aO, .inl (gl.2, 1, .inr (.inr (.inr (.inl lo)))))]) (fun (u : Unit) => ([(aR, .inr (10, [.ref aG, .ref aP, .ref aH, .ref aY, .ref aT, .ref aS, .ref aF, .ref aX, .int (iI pr), .int (iI tk), .int (iI tol), .int (iI hou)])), (aG, .inr (3, [.ref aGn, .ref aGw, .ref aGs, .int (iI kn)])), (aGs, .inl (gI g, 200, .inl (ar sk))), (aT, .inr (8, [.ref aTp, .ref aTt, .ref aTx, .ref aTy, .ref aE, .int (iI ld)])), (aO, .inl (gl.2, 1, .inr (.inr (.inr (.inl lo)))))] : va_W)) rfl rfl (by decide) (fun _ => rfl) (fun _ => rfl) rfl (fun E ce q9 u H locs hXP hPX hP hD hS hcell hv9 hcl => ?_) (fun u v_1 H locs hv_1 pv_1 hP hD hS => ?_)
    · skip
      have hP : va_P (gD g) vwCl [(aR, .inr (10, [.ref aG, .ref aP, .ref aH, .ref aY, .ref aT, .ref aS, .ref aF, .ref aX, .int (iI pr), .int (iI tk), .int (iI tol), .int (iI hou)])), (aG, .inr (3, [.ref aGn, .ref aGw, .ref aGs, .int (iI kn)])), (aGs, .inl (gI g, 200, .inl (ar sk))), (aT, .inr (8, [.ref aTp, .ref aTt, .ref aTx, .ref aTy, .ref aE, .int (iI ld)])), (aO, .inl (gl.2, 1, .inr (.inr (.inr (.inl lo)))))] H := hP
      have hD : va_D A [(aR, .inr (10, [.ref aG, .ref aP, .ref aH, .ref aY, .ref aT, .ref aS, .ref aF, .ref aX, .int (iI pr), .int (iI tk), .int (iI tol), .int (iI hou)])), (aG, .inr (3, [.ref aGn, .ref aGw, .ref aGs, .int (iI kn)])), (aGs, .inl (gI g, 200, .inl (ar sk))), (aT, .inr (8, [.ref aTp, .ref aTt, .ref aTx, .ref aTy, .ref aE, .int (iI ld)])), (aO, .inl (gl.2, 1, .inr (.inr (.inr (.inl lo)))))] := hD
      obtain ⟨hE, hp⟩ := hPX
      have hp : ld = 0 := hp
      subst hE
      refine vx_catch (E := "java/lang/ArithmeticException") (name := "java/lang/ArithmeticException") hown [] ⟨0, 7, 10, 55⟩ [] (by rw [htab]; rfl) (fun z hz => by cases hz) (by decide) (by decide) (hts (.classLink RL 55 "java/lang/ArithmeticException") (List.mem_of_getElem? (i := 1) rfl)) (va_Nw.use rfl (hC.2.2.2.2.2.2.2.2.2.2.1 "java/lang/ArithmeticException" (List.mem_of_getElem? (i := 4) rfl))) hcell hv9 hcl ?_
      refine lv_astore_n (lv' := [(2, .ref q9), (0, .ref aR), (1, .ref aO)]) hx hb dL_meanSinking_10 rfl hl (by decide) rfl (fun ls hl => ?_)
      refine x_iconst hx hb dL_meanSinking_11 ?_
      rw [hQ9]
      exact x_iret hx hb hr hlocks hP hD hS (S := (Nat → UInt64)) rfl dL_meanSinking_12 lo (by
          first
          | (
             unfold bI
             first | (rw [if_pos (by omega)]) | (rw [if_neg (by omega)]))
          | fail "q9") (by
          first
          | (
             intro h0
             first | (exfalso; unfold bI at h0; rw [if_pos (by omega)] at h0; omega) | (rw [zl_upD]; subst_vars; rfl))
          | fail "q9") rfl (Nat.le_of_ble_eq_true rfl) (Nat.le_of_ble_eq_true rfl)
    · skip
      have hP : va_P (gD g) vwCl [(aR, .inr (10, [.ref aG, .ref aP, .ref aH, .ref aY, .ref aT, .ref aS, .ref aF, .ref aX, .int (iI pr), .int (iI tk), .int (iI tol), .int (iI hou)])), (aG, .inr (3, [.ref aGn, .ref aGw, .ref aGs, .int (iI kn)])), (aGs, .inl (gI g, 200, .inl (ar sk))), (aT, .inr (8, [.ref aTp, .ref aTt, .ref aTx, .ref aTy, .ref aE, .int (iI ld)])), (aO, .inl (gl.2, 1, .inr (.inr (.inr (.inl lo)))))] H := hP
      have hD : va_D A [(aR, .inr (10, [.ref aG, .ref aP, .ref aH, .ref aY, .ref aT, .ref aS, .ref aF, .ref aX, .int (iI pr), .int (iI tk), .int (iI tol), .int (iI hou)])), (aG, .inr (3, [.ref aGn, .ref aGw, .ref aGs, .int (iI kn)])), (aGs, .inl (gI g, 200, .inl (ar sk))), (aT, .inr (8, [.ref aTp, .ref aTt, .ref aTx, .ref aTy, .ref aE, .int (iI ld)])), (aO, .inl (gl.2, 1, .inr (.inr (.inr (.inl lo)))))] := hD
      have hv_1 : v_1 = mnD (sumI sk ld) ld := hv_1
      obtain ⟨tv_1, pv_1⟩ := pv_1
      have tv_1 : ld ≠ 0 := tv_1
      refine va_dast hx hb hL.1 hP hD hS 4 1 rfl rfl zl_in dL_meanSinking_6 (fun H locs hP hD hS => ?_)
      have hP : va_P (gD g) vwCl [(aR, .inr (10, [.ref aG, .ref aP, .ref aH, .ref aY, .ref aT, .ref aS, .ref aF, .ref aX, .int (iI pr), .int (iI tk), .int (iI tol), .int (iI hou)])), (aG, .inr (3, [.ref aGn, .ref aGw, .ref aGs, .int (iI kn)])), (aGs, .inl (gI g, 200, .inl (ar sk))), (aT, .inr (8, [.ref aTp, .ref aTt, .ref aTx, .ref aTy, .ref aE, .int (iI ld)])), (aO, .inl (gl.2, 1, .inr (.inr (.inr (.inl (vf_upd lo (iI 0).toNatClampNeg (v_1)))))))] H := hP
      have hD : va_D A [(aR, .inr (10, [.ref aG, .ref aP, .ref aH, .ref aY, .ref aT, .ref aS, .ref aF, .ref aX, .int (iI pr), .int (iI tk), .int (iI tol), .int (iI hou)])), (aG, .inr (3, [.ref aGn, .ref aGw, .ref aGs, .int (iI kn)])), (aGs, .inl (gI g, 200, .inl (ar sk))), (aT, .inr (8, [.ref aTp, .ref aTt, .ref aTx, .ref aTy, .ref aE, .int (iI ld)])), (aO, .inl (gl.2, 1, .inr (.inr (.inr (.inl (vf_upd lo (iI 0).toNatClampNeg (v_1)))))))] := hD
      refine lv_goto (tgt := 13) hx hb dL_meanSinking_7 (by decide) ?_
      refine x_iconst hx hb dL_meanSinking_13 ?_
      rw [hQ9]
      exact x_iret hx hb hr hlocks hP hD hS (S := (Nat → UInt64)) rfl dL_meanSinking_14 (vf_upd lo (iI 0).toNatClampNeg (v_1)) (by
          first
          | (
             unfold bI
             first | (rw [if_pos (by omega)]) | (rw [if_neg (by omega)]))
          | fail "q9") (by
          first
          | (
             intro h0
             first | (exfalso; unfold bI at h0; rw [if_pos (by omega)] at h0; omega) | (rw [zl_upD]; subst_vars; rfl))
          | fail "q9") rfl (Nat.le_of_ble_eq_true rfl) (Nat.le_of_ble_eq_true rfl)
  rw [hH, hlo, hQ9] at goal_
  exact goal_
