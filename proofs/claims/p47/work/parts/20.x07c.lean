set_option maxHeartbeats 4000000 in
set_option maxRecDepth 100000 in
theorem c_X0_restart (l : Launch) (g : xg) (sz : Nat) (aC : Nat) (cx cy chx chy : Int) : Met l yX0_restart wsX0_restart { frames := 0, cells := 0, slots := 0, locals := 0 } (va_Pc [.ref aC] (xB g [(aC, .inr (3, [.int (iI cx), .int (iI cy), .int (iI chx), .int (iI chy)]))] sz)) (va_Qv (fun (u : Unit) => True) (fun u t => xE g (va_A [(aC, .inr (3, [.int (iI cx), .int (iI cy), .int (iI chx), .int (iI chy)]))] sz) ((fun (u : Unit) => [(aC, .inr (3, [.int (iI 0), .int (iI 0), .int (iI 0), .int (iI 0)]))]) u) t) (va_A [(aC, .inr (3, [.int (iI cx), .int (iI cy), .int (iI chx), .int (iI chy)]))] sz)) 0 0 (va_A [(aC, .inr (3, [.int (iI cx), .int (iI cy), .int (iI chx), .int (iI chy)]))] sz) := by
  refine x_enter (y := yX0_restart) (ws := wsX0_restart) (g := g) (sz := sz) (av := [.ref aC]) (WS := [(aC, .inr (3, [.int (iI cx), .int (iI cy), .int (iI chx), .int (iI chy)]))]) (cc := cX0_restart) (maxL := 1) (ret := none) (Qc := (fun A => (va_Qv (fun (u : Unit) => True) (fun u t => xE g A ((fun (u : Unit) => [(aC, .inr (3, [.int (iI 0), .int (iI 0), .int (iI 0), .int (iI 0)]))]) u) t) A))) (by decide) rfl (Nat.le_of_ble_eq_true rfl) ?_
  intro p e s m args below meth c A ls hx hb hr hml hown hts hlocks hname hC hP hD hS hA hl
  have hK := hC.1
  have hown : s.vm.findClass RX0 = some m.cls := hown
  have hin0 : ∀ w ∈ u_ws RX0 TX0 4, w ∈ wsX0_restart := by decide +kernel
  have hl : lv_has ls 1 [(0, .ref aC)] := hl
  obtain ⟨H, hH⟩ : ∃ z, z = s.heap := ⟨_, rfl⟩
  obtain ⟨locs, hlo⟩ : ∃ z : List Loc, z = [] := ⟨_, rfl⟩
  obtain ⟨Q9, hQ9⟩ : ∃ z, z = MQ below (va_Qv (fun (u : Unit) => True) (fun u t => xE g A ((fun (u : Unit) => [(aC, .inr (3, [.int (iI 0), .int (iI 0), .int (iI 0), .int (iI 0)]))]) u) t) A) args s 0 0 A := ⟨_, rfl⟩
  have hP : va_P (gD g) vwCl [(aC, .inr (3, [.int (iI cx), .int (iI cy), .int (iI chx), .int (iI chy)]))] H := by rw [hH]; exact hP
  have hS : va_S A s.heap H locs := by rw [hH, hlo]; exact hS
  have goal_ : W p l e { frames := 0, cells := 0, slots := 0, locals := 0 } s m args below meth c H locs 0 0 Q9 (F0 m 0 ls []) := by
    clear hH hlo
    refine lv_aload_n hx hb dX0_restart_0 rfl (lv_at hl 0 rfl) ?_
    refine x_iconst hx hb dX0_restart_1 ?_
    refine va_put (D := gD g) (ci := 3) (v := .int (iI 0)) (ty := tyX0 0) (C := RX0) (T := TX0) (N := 4) hx hb hts hin0 tyX0 tyX0_ok nmX0 hown hK hP hD hS 0 rfl rfl 0 (by decide) (hts (.fieldLink RX0 7 "TunnelRing$Course" "x" "I") (List.mem_of_getElem? (i := 1) rfl)) (fun _ h9 => h9) rfl (tyX0_ok 0 (by decide)) rfl rfl (Nat.le_of_ble_eq_true rfl) dX0_restart_2 (fun H locs hP hD hS => ?_)
    have hP : va_P (gD g) vwCl [(aC, .inr (3, [.int (iI 0), .int (iI cy), .int (iI chx), .int (iI chy)]))] H := hP
    have hD : va_D A [(aC, .inr (3, [.int (iI 0), .int (iI cy), .int (iI chx), .int (iI chy)]))] := hD
    refine lv_aload_n hx hb dX0_restart_5 rfl (lv_at hl 0 rfl) ?_
    refine x_iconst hx hb dX0_restart_6 ?_
    refine va_put (D := gD g) (ci := 3) (v := .int (iI 0)) (ty := tyX0 1) (C := RX0) (T := TX0) (N := 4) hx hb hts hin0 tyX0 tyX0_ok nmX0 hown hK hP hD hS 0 rfl rfl 1 (by decide) (hts (.fieldLink RX0 13 "TunnelRing$Course" "y" "I") (List.mem_of_getElem? (i := 2) rfl)) (fun _ h9 => h9) rfl (tyX0_ok 1 (by decide)) rfl rfl (Nat.le_of_ble_eq_true rfl) dX0_restart_7 (fun H locs hP hD hS => ?_)
    have hP : va_P (gD g) vwCl [(aC, .inr (3, [.int (iI 0), .int (iI 0), .int (iI chx), .int (iI chy)]))] H := hP
    have hD : va_D A [(aC, .inr (3, [.int (iI 0), .int (iI 0), .int (iI chx), .int (iI chy)]))] := hD
    refine lv_aload_n hx hb dX0_restart_10 rfl (lv_at hl 0 rfl) ?_
    refine x_iconst hx hb dX0_restart_11 ?_
    refine va_put (D := gD g) (ci := 3) (v := .int (iI 0)) (ty := tyX0 2) (C := RX0) (T := TX0) (N := 4) hx hb hts hin0 tyX0 tyX0_ok nmX0 hown hK hP hD hS 0 rfl rfl 2 (by decide) (hts (.fieldLink RX0 16 "TunnelRing$Course" "headingX" "I") (List.mem_of_getElem? (i := 3) rfl)) (fun _ h9 => h9) rfl (tyX0_ok 2 (by decide)) rfl rfl (Nat.le_of_ble_eq_true rfl) dX0_restart_12 (fun H locs hP hD hS => ?_)
    have hP : va_P (gD g) vwCl [(aC, .inr (3, [.int (iI 0), .int (iI 0), .int (iI 0), .int (iI chy)]))] H := hP
    have hD : va_D A [(aC, .inr (3, [.int (iI 0), .int (iI 0), .int (iI 0), .int (iI chy)]))] := hD
    refine lv_aload_n hx hb dX0_restart_15 rfl (lv_at hl 0 rfl) ?_
    refine x_iconst hx hb dX0_restart_16 ?_
    refine va_put (D := gD g) (ci := 3) (v := .int (iI 0)) (ty := tyX0 3) (C := RX0) (T := TX0) (N := 4) hx hb hts hin0 tyX0 tyX0_ok nmX0 hown hK hP hD hS 0 rfl rfl 3 (by decide) (hts (.fieldLink RX0 19 "TunnelRing$Course" "headingY" "I") (List.mem_of_getElem? (i := 4) rfl)) (fun _ h9 => h9) rfl (tyX0_ok 3 (by decide)) rfl rfl (Nat.le_of_ble_eq_true rfl) dX0_restart_17 (fun H locs hP hD hS => ?_)
    have hP : va_P (gD g) vwCl [(aC, .inr (3, [.int (iI 0), .int (iI 0), .int (iI 0), .int (iI 0)]))] H := hP
    have hD : va_D A [(aC, .inr (3, [.int (iI 0), .int (iI 0), .int (iI 0), .int (iI 0)]))] := hD
    rw [hQ9]
    exact x_vret hx hb hr hlocks hP hD hS (S := Unit) (Φ := _) (W1 := _) dX0_restart_20 () trivial rfl (Nat.le_of_ble_eq_true rfl) (Nat.le_of_ble_eq_true rfl)
  rw [hH, hlo, hQ9] at goal_
  exact goal_

set_option maxHeartbeats 4000000 in
set_option maxRecDepth 100000 in
theorem c_X0_bend (l : Launch) (g : xg) (sz : Nat) (aC : Nat) (cx cy chx chy bX bY : Int) : Met l yX0_bend wsX0_bend { frames := 0, cells := 0, slots := 0, locals := 0 } (va_Pc [.ref aC, .int (iI bX), .int (iI bY)] (xB g [(aC, .inr (3, [.int (iI cx), .int (iI cy), .int (iI chx), .int (iI chy)]))] sz)) (va_Qv (fun (u : Unit) => True) (fun u t => xE g (va_A [(aC, .inr (3, [.int (iI cx), .int (iI cy), .int (iI chx), .int (iI chy)]))] sz) ((fun (u : Unit) => [(aC, .inr (3, [.int (iI (cx + (chx + bX))), .int (iI (cy + (chy + bY))), .int (iI (chx + bX)), .int (iI (chy + bY))]))]) u) t) (va_A [(aC, .inr (3, [.int (iI cx), .int (iI cy), .int (iI chx), .int (iI chy)]))] sz)) 0 0 (va_A [(aC, .inr (3, [.int (iI cx), .int (iI cy), .int (iI chx), .int (iI chy)]))] sz) := by
  refine x_enter (y := yX0_bend) (ws := wsX0_bend) (g := g) (sz := sz) (av := [.ref aC, .int (iI bX), .int (iI bY)]) (WS := [(aC, .inr (3, [.int (iI cx), .int (iI cy), .int (iI chx), .int (iI chy)]))]) (cc := cX0_bend) (maxL := 3) (ret := none) (Qc := (fun A => (va_Qv (fun (u : Unit) => True) (fun u t => xE g A ((fun (u : Unit) => [(aC, .inr (3, [.int (iI (cx + (chx + bX))), .int (iI (cy + (chy + bY))), .int (iI (chx + bX)), .int (iI (chy + bY))]))]) u) t) A))) (by decide) rfl (Nat.le_of_ble_eq_true rfl) ?_
  intro p e s m args below meth c A ls hx hb hr hml hown hts hlocks hname hC hP hD hS hA hl
  have hK := hC.1
  have hown : s.vm.findClass RX0 = some m.cls := hown
  have hin0 : ∀ w ∈ u_ws RX0 TX0 4, w ∈ wsX0_bend := by decide +kernel
  have hl : lv_has ls 3 [(0, .ref aC), (1, .int (iI bX)), (2, .int (iI bY))] := hl
  obtain ⟨H, hH⟩ : ∃ z, z = s.heap := ⟨_, rfl⟩
  obtain ⟨locs, hlo⟩ : ∃ z : List Loc, z = [] := ⟨_, rfl⟩
  obtain ⟨Q9, hQ9⟩ : ∃ z, z = MQ below (va_Qv (fun (u : Unit) => True) (fun u t => xE g A ((fun (u : Unit) => [(aC, .inr (3, [.int (iI (cx + (chx + bX))), .int (iI (cy + (chy + bY))), .int (iI (chx + bX)), .int (iI (chy + bY))]))]) u) t) A) args s 0 0 A := ⟨_, rfl⟩
  have hP : va_P (gD g) vwCl [(aC, .inr (3, [.int (iI cx), .int (iI cy), .int (iI chx), .int (iI chy)]))] H := by rw [hH]; exact hP
  have hS : va_S A s.heap H locs := by rw [hH, hlo]; exact hS
  have goal_ : W p l e { frames := 0, cells := 0, slots := 0, locals := 0 } s m args below meth c H locs 0 0 Q9 (F0 m 0 ls []) := by
    clear hH hlo
    refine lv_aload_n hx hb dX0_bend_0 rfl (lv_at hl 0 rfl) ?_
    refine lv_dup hx hb dX0_bend_1 rfl ?_
    refine va_get (D := gD g) (ci := 3) (v := .int (iI chx)) (C := RX0) (T := TX0) (N := 4) hx hb hts hin0 hown hK hP 0 rfl rfl 2 (by decide) (hts (.fieldLink RX0 16 "TunnelRing$Course" "headingX" "I") (List.mem_of_getElem? (i := 1) rfl)) (fun _ h9 => h9) rfl dX0_bend_2 ?_
    refine lv_iload_n hx hb dX0_bend_5 rfl (lv_at hl 1 rfl) ?_
    refine x_iadd hx hb dX0_bend_6 ?_
    obtain ⟨v_1, ev_1⟩ : ∃ z : Int, z = chx + bX := ⟨_, rfl⟩
    refine x_top ev_1.symm ?_
    refine va_put (D := gD g) (ci := 3) (v := .int (iI v_1)) (ty := tyX0 2) (C := RX0) (T := TX0) (N := 4) hx hb hts hin0 tyX0 tyX0_ok nmX0 hown hK hP hD hS 0 rfl rfl 2 (by decide) (hts (.fieldLink RX0 16 "TunnelRing$Course" "headingX" "I") (List.mem_of_getElem? (i := 1) rfl)) (fun _ h9 => h9) rfl (tyX0_ok 2 (by decide)) rfl rfl (Nat.le_of_ble_eq_true rfl) dX0_bend_7 (fun H locs hP hD hS => ?_)
    have hP : va_P (gD g) vwCl [(aC, .inr (3, [.int (iI cx), .int (iI cy), .int (iI v_1), .int (iI chy)]))] H := hP
    have hD : va_D A [(aC, .inr (3, [.int (iI cx), .int (iI cy), .int (iI v_1), .int (iI chy)]))] := hD
    refine lv_aload_n hx hb dX0_bend_10 rfl (lv_at hl 0 rfl) ?_
    refine lv_dup hx hb dX0_bend_11 rfl ?_
    refine va_get (D := gD g) (ci := 3) (v := .int (iI chy)) (C := RX0) (T := TX0) (N := 4) hx hb hts hin0 hown hK hP 0 rfl rfl 3 (by decide) (hts (.fieldLink RX0 19 "TunnelRing$Course" "headingY" "I") (List.mem_of_getElem? (i := 2) rfl)) (fun _ h9 => h9) rfl dX0_bend_12 ?_
    refine lv_iload_n hx hb dX0_bend_15 rfl (lv_at hl 2 rfl) ?_
    refine x_iadd hx hb dX0_bend_16 ?_
    obtain ⟨v_2, ev_2⟩ : ∃ z : Int, z = chy + bY := ⟨_, rfl⟩
    refine x_top ev_2.symm ?_
    refine va_put (D := gD g) (ci := 3) (v := .int (iI v_2)) (ty := tyX0 3) (C := RX0) (T := TX0) (N := 4) hx hb hts hin0 tyX0 tyX0_ok nmX0 hown hK hP hD hS 0 rfl rfl 3 (by decide) (hts (.fieldLink RX0 19 "TunnelRing$Course" "headingY" "I") (List.mem_of_getElem? (i := 2) rfl)) (fun _ h9 => h9) rfl (tyX0_ok 3 (by decide)) rfl rfl (Nat.le_of_ble_eq_true rfl) dX0_bend_17 (fun H locs hP hD hS => ?_)
    have hP : va_P (gD g) vwCl [(aC, .inr (3, [.int (iI cx), .int (iI cy), .int (iI v_1), .int (iI v_2)]))] H := hP
    have hD : va_D A [(aC, .inr (3, [.int (iI cx), .int (iI cy), .int (iI v_1), .int (iI v_2)]))] := hD
    refine lv_aload_n hx hb dX0_bend_20 rfl (lv_at hl 0 rfl) ?_
    refine lv_dup hx hb dX0_bend_21 rfl ?_
    refine va_get (D := gD g) (ci := 3) (v := .int (iI cx)) (C := RX0) (T := TX0) (N := 4) hx hb hts hin0 hown hK hP 0 rfl rfl 0 (by decide) (hts (.fieldLink RX0 7 "TunnelRing$Course" "x" "I") (List.mem_of_getElem? (i := 3) rfl)) (fun _ h9 => h9) rfl dX0_bend_22 ?_
    refine lv_aload_n hx hb dX0_bend_25 rfl (lv_at hl 0 rfl) ?_
    refine va_get (D := gD g) (ci := 3) (v := .int (iI v_1)) (C := RX0) (T := TX0) (N := 4) hx hb hts hin0 hown hK hP 0 rfl rfl 2 (by decide) (hts (.fieldLink RX0 16 "TunnelRing$Course" "headingX" "I") (List.mem_of_getElem? (i := 1) rfl)) (fun _ h9 => h9) rfl dX0_bend_26 ?_
    refine x_iadd hx hb dX0_bend_29 ?_
    obtain ⟨v_3, ev_3⟩ : ∃ z : Int, z = cx + v_1 := ⟨_, rfl⟩
    refine x_top ev_3.symm ?_
    refine va_put (D := gD g) (ci := 3) (v := .int (iI v_3)) (ty := tyX0 0) (C := RX0) (T := TX0) (N := 4) hx hb hts hin0 tyX0 tyX0_ok nmX0 hown hK hP hD hS 0 rfl rfl 0 (by decide) (hts (.fieldLink RX0 7 "TunnelRing$Course" "x" "I") (List.mem_of_getElem? (i := 3) rfl)) (fun _ h9 => h9) rfl (tyX0_ok 0 (by decide)) rfl rfl (Nat.le_of_ble_eq_true rfl) dX0_bend_30 (fun H locs hP hD hS => ?_)
    have hP : va_P (gD g) vwCl [(aC, .inr (3, [.int (iI v_3), .int (iI cy), .int (iI v_1), .int (iI v_2)]))] H := hP
    have hD : va_D A [(aC, .inr (3, [.int (iI v_3), .int (iI cy), .int (iI v_1), .int (iI v_2)]))] := hD
    refine lv_aload_n hx hb dX0_bend_33 rfl (lv_at hl 0 rfl) ?_
    refine lv_dup hx hb dX0_bend_34 rfl ?_
    refine va_get (D := gD g) (ci := 3) (v := .int (iI cy)) (C := RX0) (T := TX0) (N := 4) hx hb hts hin0 hown hK hP 0 rfl rfl 1 (by decide) (hts (.fieldLink RX0 13 "TunnelRing$Course" "y" "I") (List.mem_of_getElem? (i := 4) rfl)) (fun _ h9 => h9) rfl dX0_bend_35 ?_
    refine lv_aload_n hx hb dX0_bend_38 rfl (lv_at hl 0 rfl) ?_
    refine va_get (D := gD g) (ci := 3) (v := .int (iI v_2)) (C := RX0) (T := TX0) (N := 4) hx hb hts hin0 hown hK hP 0 rfl rfl 3 (by decide) (hts (.fieldLink RX0 19 "TunnelRing$Course" "headingY" "I") (List.mem_of_getElem? (i := 2) rfl)) (fun _ h9 => h9) rfl dX0_bend_39 ?_
    refine x_iadd hx hb dX0_bend_42 ?_
    obtain ⟨v_4, ev_4⟩ : ∃ z : Int, z = cy + v_2 := ⟨_, rfl⟩
    refine x_top ev_4.symm ?_
    refine va_put (D := gD g) (ci := 3) (v := .int (iI v_4)) (ty := tyX0 1) (C := RX0) (T := TX0) (N := 4) hx hb hts hin0 tyX0 tyX0_ok nmX0 hown hK hP hD hS 0 rfl rfl 1 (by decide) (hts (.fieldLink RX0 13 "TunnelRing$Course" "y" "I") (List.mem_of_getElem? (i := 4) rfl)) (fun _ h9 => h9) rfl (tyX0_ok 1 (by decide)) rfl rfl (Nat.le_of_ble_eq_true rfl) dX0_bend_43 (fun H locs hP hD hS => ?_)
    have hP : va_P (gD g) vwCl [(aC, .inr (3, [.int (iI v_3), .int (iI v_4), .int (iI v_1), .int (iI v_2)]))] H := hP
    have hD : va_D A [(aC, .inr (3, [.int (iI v_3), .int (iI v_4), .int (iI v_1), .int (iI v_2)]))] := hD
    have q_5 : (cx + (chx + bX)) = v_3 := by
      first
      | (
         first | rfl | omega | (subst_vars; first | rfl | omega))
      | fail "q9"
    have q_6 : (cy + (chy + bY)) = v_4 := by
      first
      | (
         first | rfl | omega | (subst_vars; first | rfl | omega))
      | fail "q9"
    have q_7 : (chx + bX) = v_1 := by
      first
      | (
         first | rfl | omega | (subst_vars; first | rfl | omega))
      | fail "q9"
    have q_8 : (chy + bY) = v_2 := by
      first
      | (
         first | rfl | omega | (subst_vars; first | rfl | omega))
      | fail "q9"
    have hw_9 := (congr (congr (congr (congrArg (fun (z0 : Int) (z1 : Int) (z2 : Int) (z3 : Int) => ([(aC, .inr (3, [.int (iI z0), .int (iI z1), .int (iI z2), .int (iI z3)]))] : va_W)) q_5.symm) q_6.symm) q_7.symm) q_8.symm)
    rw [hQ9]
    exact x_vret hx hb hr hlocks hP hD hS (S := Unit) (Φ := _) (W1 := _) dX0_bend_46 () trivial hw_9 (Nat.le_of_ble_eq_true rfl) (Nat.le_of_ble_eq_true rfl)
  rw [hH, hlo, hQ9] at goal_
  exact goal_

set_option maxHeartbeats 4000000 in
set_option maxRecDepth 100000 in
theorem c_X0_unbend (l : Launch) (g : xg) (sz : Nat) (aC : Nat) (cx cy chx chy bX bY : Int) : Met l yX0_unbend wsX0_unbend { frames := 0, cells := 0, slots := 0, locals := 0 } (va_Pc [.ref aC, .int (iI bX), .int (iI bY)] (xB g [(aC, .inr (3, [.int (iI cx), .int (iI cy), .int (iI chx), .int (iI chy)]))] sz)) (va_Qv (fun (u : Unit) => True) (fun u t => xE g (va_A [(aC, .inr (3, [.int (iI cx), .int (iI cy), .int (iI chx), .int (iI chy)]))] sz) ((fun (u : Unit) => [(aC, .inr (3, [.int (iI (cx - chx)), .int (iI (cy - chy)), .int (iI (chx - bX)), .int (iI (chy - bY))]))]) u) t) (va_A [(aC, .inr (3, [.int (iI cx), .int (iI cy), .int (iI chx), .int (iI chy)]))] sz)) 0 0 (va_A [(aC, .inr (3, [.int (iI cx), .int (iI cy), .int (iI chx), .int (iI chy)]))] sz) := by
  refine x_enter (y := yX0_unbend) (ws := wsX0_unbend) (g := g) (sz := sz) (av := [.ref aC, .int (iI bX), .int (iI bY)]) (WS := [(aC, .inr (3, [.int (iI cx), .int (iI cy), .int (iI chx), .int (iI chy)]))]) (cc := cX0_unbend) (maxL := 3) (ret := none) (Qc := (fun A => (va_Qv (fun (u : Unit) => True) (fun u t => xE g A ((fun (u : Unit) => [(aC, .inr (3, [.int (iI (cx - chx)), .int (iI (cy - chy)), .int (iI (chx - bX)), .int (iI (chy - bY))]))]) u) t) A))) (by decide) rfl (Nat.le_of_ble_eq_true rfl) ?_
  intro p e s m args below meth c A ls hx hb hr hml hown hts hlocks hname hC hP hD hS hA hl
  have hK := hC.1
  have hown : s.vm.findClass RX0 = some m.cls := hown
  have hin0 : ∀ w ∈ u_ws RX0 TX0 4, w ∈ wsX0_unbend := by decide +kernel
  have hl : lv_has ls 3 [(0, .ref aC), (1, .int (iI bX)), (2, .int (iI bY))] := hl
  obtain ⟨H, hH⟩ : ∃ z, z = s.heap := ⟨_, rfl⟩
  obtain ⟨locs, hlo⟩ : ∃ z : List Loc, z = [] := ⟨_, rfl⟩
  obtain ⟨Q9, hQ9⟩ : ∃ z, z = MQ below (va_Qv (fun (u : Unit) => True) (fun u t => xE g A ((fun (u : Unit) => [(aC, .inr (3, [.int (iI (cx - chx)), .int (iI (cy - chy)), .int (iI (chx - bX)), .int (iI (chy - bY))]))]) u) t) A) args s 0 0 A := ⟨_, rfl⟩
  have hP : va_P (gD g) vwCl [(aC, .inr (3, [.int (iI cx), .int (iI cy), .int (iI chx), .int (iI chy)]))] H := by rw [hH]; exact hP
  have hS : va_S A s.heap H locs := by rw [hH, hlo]; exact hS
  have goal_ : W p l e { frames := 0, cells := 0, slots := 0, locals := 0 } s m args below meth c H locs 0 0 Q9 (F0 m 0 ls []) := by
    clear hH hlo
    refine lv_aload_n hx hb dX0_unbend_0 rfl (lv_at hl 0 rfl) ?_
    refine lv_dup hx hb dX0_unbend_1 rfl ?_
    refine va_get (D := gD g) (ci := 3) (v := .int (iI cx)) (C := RX0) (T := TX0) (N := 4) hx hb hts hin0 hown hK hP 0 rfl rfl 0 (by decide) (hts (.fieldLink RX0 7 "TunnelRing$Course" "x" "I") (List.mem_of_getElem? (i := 1) rfl)) (fun _ h9 => h9) rfl dX0_unbend_2 ?_
    refine lv_aload_n hx hb dX0_unbend_5 rfl (lv_at hl 0 rfl) ?_
    refine va_get (D := gD g) (ci := 3) (v := .int (iI chx)) (C := RX0) (T := TX0) (N := 4) hx hb hts hin0 hown hK hP 0 rfl rfl 2 (by decide) (hts (.fieldLink RX0 16 "TunnelRing$Course" "headingX" "I") (List.mem_of_getElem? (i := 2) rfl)) (fun _ h9 => h9) rfl dX0_unbend_6 ?_
    refine x_isub hx hb dX0_unbend_9 ?_
    obtain ⟨v_1, ev_1⟩ : ∃ z : Int, z = cx - chx := ⟨_, rfl⟩
    refine x_top ev_1.symm ?_
    refine va_put (D := gD g) (ci := 3) (v := .int (iI v_1)) (ty := tyX0 0) (C := RX0) (T := TX0) (N := 4) hx hb hts hin0 tyX0 tyX0_ok nmX0 hown hK hP hD hS 0 rfl rfl 0 (by decide) (hts (.fieldLink RX0 7 "TunnelRing$Course" "x" "I") (List.mem_of_getElem? (i := 1) rfl)) (fun _ h9 => h9) rfl (tyX0_ok 0 (by decide)) rfl rfl (Nat.le_of_ble_eq_true rfl) dX0_unbend_10 (fun H locs hP hD hS => ?_)
    have hP : va_P (gD g) vwCl [(aC, .inr (3, [.int (iI v_1), .int (iI cy), .int (iI chx), .int (iI chy)]))] H := hP
    have hD : va_D A [(aC, .inr (3, [.int (iI v_1), .int (iI cy), .int (iI chx), .int (iI chy)]))] := hD
    refine lv_aload_n hx hb dX0_unbend_13 rfl (lv_at hl 0 rfl) ?_
    refine lv_dup hx hb dX0_unbend_14 rfl ?_
    refine va_get (D := gD g) (ci := 3) (v := .int (iI cy)) (C := RX0) (T := TX0) (N := 4) hx hb hts hin0 hown hK hP 0 rfl rfl 1 (by decide) (hts (.fieldLink RX0 13 "TunnelRing$Course" "y" "I") (List.mem_of_getElem? (i := 3) rfl)) (fun _ h9 => h9) rfl dX0_unbend_15 ?_
    refine lv_aload_n hx hb dX0_unbend_18 rfl (lv_at hl 0 rfl) ?_
    refine va_get (D := gD g) (ci := 3) (v := .int (iI chy)) (C := RX0) (T := TX0) (N := 4) hx hb hts hin0 hown hK hP 0 rfl rfl 3 (by decide) (hts (.fieldLink RX0 19 "TunnelRing$Course" "headingY" "I") (List.mem_of_getElem? (i := 4) rfl)) (fun _ h9 => h9) rfl dX0_unbend_19 ?_
    refine x_isub hx hb dX0_unbend_22 ?_
    obtain ⟨v_2, ev_2⟩ : ∃ z : Int, z = cy - chy := ⟨_, rfl⟩
    refine x_top ev_2.symm ?_
    refine va_put (D := gD g) (ci := 3) (v := .int (iI v_2)) (ty := tyX0 1) (C := RX0) (T := TX0) (N := 4) hx hb hts hin0 tyX0 tyX0_ok nmX0 hown hK hP hD hS 0 rfl rfl 1 (by decide) (hts (.fieldLink RX0 13 "TunnelRing$Course" "y" "I") (List.mem_of_getElem? (i := 3) rfl)) (fun _ h9 => h9) rfl (tyX0_ok 1 (by decide)) rfl rfl (Nat.le_of_ble_eq_true rfl) dX0_unbend_23 (fun H locs hP hD hS => ?_)
    have hP : va_P (gD g) vwCl [(aC, .inr (3, [.int (iI v_1), .int (iI v_2), .int (iI chx), .int (iI chy)]))] H := hP
    have hD : va_D A [(aC, .inr (3, [.int (iI v_1), .int (iI v_2), .int (iI chx), .int (iI chy)]))] := hD
    refine lv_aload_n hx hb dX0_unbend_26 rfl (lv_at hl 0 rfl) ?_
    refine lv_dup hx hb dX0_unbend_27 rfl ?_
    refine va_get (D := gD g) (ci := 3) (v := .int (iI chx)) (C := RX0) (T := TX0) (N := 4) hx hb hts hin0 hown hK hP 0 rfl rfl 2 (by decide) (hts (.fieldLink RX0 16 "TunnelRing$Course" "headingX" "I") (List.mem_of_getElem? (i := 2) rfl)) (fun _ h9 => h9) rfl dX0_unbend_28 ?_
    refine lv_iload_n hx hb dX0_unbend_31 rfl (lv_at hl 1 rfl) ?_
    refine x_isub hx hb dX0_unbend_32 ?_
    obtain ⟨v_3, ev_3⟩ : ∃ z : Int, z = chx - bX := ⟨_, rfl⟩
    refine x_top ev_3.symm ?_
    refine va_put (D := gD g) (ci := 3) (v := .int (iI v_3)) (ty := tyX0 2) (C := RX0) (T := TX0) (N := 4) hx hb hts hin0 tyX0 tyX0_ok nmX0 hown hK hP hD hS 0 rfl rfl 2 (by decide) (hts (.fieldLink RX0 16 "TunnelRing$Course" "headingX" "I") (List.mem_of_getElem? (i := 2) rfl)) (fun _ h9 => h9) rfl (tyX0_ok 2 (by decide)) rfl rfl (Nat.le_of_ble_eq_true rfl) dX0_unbend_33 (fun H locs hP hD hS => ?_)
    have hP : va_P (gD g) vwCl [(aC, .inr (3, [.int (iI v_1), .int (iI v_2), .int (iI v_3), .int (iI chy)]))] H := hP
    have hD : va_D A [(aC, .inr (3, [.int (iI v_1), .int (iI v_2), .int (iI v_3), .int (iI chy)]))] := hD
    refine lv_aload_n hx hb dX0_unbend_36 rfl (lv_at hl 0 rfl) ?_
    refine lv_dup hx hb dX0_unbend_37 rfl ?_
    refine va_get (D := gD g) (ci := 3) (v := .int (iI chy)) (C := RX0) (T := TX0) (N := 4) hx hb hts hin0 hown hK hP 0 rfl rfl 3 (by decide) (hts (.fieldLink RX0 19 "TunnelRing$Course" "headingY" "I") (List.mem_of_getElem? (i := 4) rfl)) (fun _ h9 => h9) rfl dX0_unbend_38 ?_
    refine lv_iload_n hx hb dX0_unbend_41 rfl (lv_at hl 2 rfl) ?_
    refine x_isub hx hb dX0_unbend_42 ?_
    obtain ⟨v_4, ev_4⟩ : ∃ z : Int, z = chy - bY := ⟨_, rfl⟩
    refine x_top ev_4.symm ?_
    refine va_put (D := gD g) (ci := 3) (v := .int (iI v_4)) (ty := tyX0 3) (C := RX0) (T := TX0) (N := 4) hx hb hts hin0 tyX0 tyX0_ok nmX0 hown hK hP hD hS 0 rfl rfl 3 (by decide) (hts (.fieldLink RX0 19 "TunnelRing$Course" "headingY" "I") (List.mem_of_getElem? (i := 4) rfl)) (fun _ h9 => h9) rfl (tyX0_ok 3 (by decide)) rfl rfl (Nat.le_of_ble_eq_true rfl) dX0_unbend_43 (fun H locs hP hD hS => ?_)
    have hP : va_P (gD g) vwCl [(aC, .inr (3, [.int (iI v_1), .int (iI v_2), .int (iI v_3), .int (iI v_4)]))] H := hP
    have hD : va_D A [(aC, .inr (3, [.int (iI v_1), .int (iI v_2), .int (iI v_3), .int (iI v_4)]))] := hD
    have q_5 : (cx - chx) = v_1 := by
      first
      | (
         first | rfl | omega | (subst_vars; first | rfl | omega))
      | fail "q9"
    have q_6 : (cy - chy) = v_2 := by
      first
      | (
         first | rfl | omega | (subst_vars; first | rfl | omega))
      | fail "q9"
    have q_7 : (chx - bX) = v_3 := by
      first
      | (
         first | rfl | omega | (subst_vars; first | rfl | omega))
      | fail "q9"
    have q_8 : (chy - bY) = v_4 := by
      first
      | (
         first | rfl | omega | (subst_vars; first | rfl | omega))
      | fail "q9"
    have hw_9 := (congr (congr (congr (congrArg (fun (z0 : Int) (z1 : Int) (z2 : Int) (z3 : Int) => ([(aC, .inr (3, [.int (iI z0), .int (iI z1), .int (iI z2), .int (iI z3)]))] : va_W)) q_5.symm) q_6.symm) q_7.symm) q_8.symm)
    rw [hQ9]
    exact x_vret hx hb hr hlocks hP hD hS (S := Unit) (Φ := _) (W1 := _) dX0_unbend_46 () trivial hw_9 (Nat.le_of_ble_eq_true rfl) (Nat.le_of_ble_eq_true rfl)
  rw [hH, hlo, hQ9] at goal_
  exact goal_

set_option maxHeartbeats 4000000 in
set_option maxRecDepth 100000 in
theorem c_X0_addRing (l : Launch) (g : xg) (sz : Nat) (aC : Nat) (cx cy chx chy po ta : Int) (hpo : 0 ≤ po ∧ po ≤ 7) : Met l yX0_addRing wsX0_addRing { frames := 1, cells := 0, slots := 0, locals := 22 } (va_Pc [.ref aC, .int (iI po), .int (iI ta)] (xB g [(aC, .inr (3, [.int (iI cx), .int (iI cy), .int (iI chx), .int (iI chy)]))] sz)) (va_Qv (fun (u : Unit) => True) (fun u t => xE g (va_A [(aC, .inr (3, [.int (iI cx), .int (iI cy), .int (iI chx), .int (iI chy)]))] sz) ((fun (u : Unit) => [(aC, .inr (3, [.int (iI (cx + (chx + ta * toSide po))), .int (iI (cy + (chy + ta * upward po))), .int (iI (chx + ta * toSide po)), .int (iI (chy + ta * upward po))]))]) u) t) (va_A [(aC, .inr (3, [.int (iI cx), .int (iI cy), .int (iI chx), .int (iI chy)]))] sz)) 0 0 (va_A [(aC, .inr (3, [.int (iI cx), .int (iI cy), .int (iI chx), .int (iI chy)]))] sz) := by
  refine x_enter (y := yX0_addRing) (ws := wsX0_addRing) (g := g) (sz := sz) (av := [.ref aC, .int (iI po), .int (iI ta)]) (WS := [(aC, .inr (3, [.int (iI cx), .int (iI cy), .int (iI chx), .int (iI chy)]))]) (cc := cX0_addRing) (maxL := 3) (ret := none) (Qc := (fun A => (va_Qv (fun (u : Unit) => True) (fun u t => xE g A ((fun (u : Unit) => [(aC, .inr (3, [.int (iI (cx + (chx + ta * toSide po))), .int (iI (cy + (chy + ta * upward po))), .int (iI (chx + ta * toSide po)), .int (iI (chy + ta * upward po))]))]) u) t) A))) (by decide) rfl (Nat.le_of_ble_eq_true rfl) ?_
  intro p e s m args below meth c A ls hx hb hr hml hown hts hlocks hname hC hP hD hS hA hl
  have hK := hC.1
  have hown : s.vm.findClass RX0 = some m.cls := hown
  have hl : lv_has ls 3 [(0, .ref aC), (1, .int (iI po)), (2, .int (iI ta))] := hl
  obtain ⟨H, hH⟩ : ∃ z, z = s.heap := ⟨_, rfl⟩
  obtain ⟨locs, hlo⟩ : ∃ z : List Loc, z = [] := ⟨_, rfl⟩
  obtain ⟨Q9, hQ9⟩ : ∃ z, z = MQ below (va_Qv (fun (u : Unit) => True) (fun u t => xE g A ((fun (u : Unit) => [(aC, .inr (3, [.int (iI (cx + (chx + ta * toSide po))), .int (iI (cy + (chy + ta * upward po))), .int (iI (chx + ta * toSide po)), .int (iI (chy + ta * upward po))]))]) u) t) A) args s 0 0 A := ⟨_, rfl⟩
  have hP : va_P (gD g) vwCl [(aC, .inr (3, [.int (iI cx), .int (iI cy), .int (iI chx), .int (iI chy)]))] H := by rw [hH]; exact hP
  have hS : va_S A s.heap H locs := by rw [hH, hlo]; exact hS
  have goal_ : W p l e { frames := 1, cells := 0, slots := 0, locals := 22 } s m args below meth c H locs 0 0 Q9 (F0 m 0 ls []) := by
    clear hH hlo
    refine lv_aload_n hx hb dX0_addRing_0 rfl (lv_at hl 0 rfl) ?_
    refine lv_iload_n hx hb dX0_addRing_1 rfl (lv_at hl 2 rfl) ?_
    refine va_getsN hx hb hC.2.1.1 hS hown (va_Nw.use rfl (hC.2.2.2.2.2.2.2.1 (RX0, 22, "TO_SIDE") (List.mem_of_getElem? (i := 0) rfl))) (fun _ h9 => h9) dX0_addRing_2 ?_
    refine lv_iload_n hx hb dX0_addRing_5 rfl (lv_at hl 1 rfl) ?_
    refine x_tald hx hb hC.2.1.2 hS (by omega) (by omega) (Nat.le_of_ble_eq_true rfl) dX0_addRing_6 (fun v_1 hv_1 => ?_)
    have bv_1 : -1 ≤ v_1 ∧ v_1 ≤ 1 := by rw [hv_1]; exact toSide_r _
    refine x_imul hx hb dX0_addRing_7 ?_
    refine lv_iload_n hx hb dX0_addRing_8 rfl (lv_at hl 2 rfl) ?_
    refine va_getsN hx hb hC.2.2.1.1 hS hown (va_Nw.use rfl (hC.2.2.2.2.2.2.2.1 (RX0, 28, "UPWARD") (List.mem_of_getElem? (i := 1) rfl))) (fun _ h9 => h9) dX0_addRing_9 ?_
    refine lv_iload_n hx hb dX0_addRing_12 rfl (lv_at hl 1 rfl) ?_
    refine x_tald hx hb hC.2.2.1.2 hS (by omega) (by omega) (Nat.le_of_ble_eq_true rfl) dX0_addRing_13 (fun v_2 hv_2 => ?_)
    have bv_2 : -1 ≤ v_2 ∧ v_2 ≤ 1 := by rw [hv_2]; exact upward_r _
    refine x_imul hx hb dX0_addRing_14 ?_
    refine x_callv (S := Unit) (wc := [(aC, .inr (3, [.int (iI cx), .int (iI cy), .int (iI chx), .int (iI chy)]))]) (wr := []) hC hP hD hS hA [0] [] [0] rfl rfl (fun hpre => va_runV (As := [.int (iI (ta * v_1)), .int (iI (ta * v_2))]) (rest := []) ⟨hx, hb, hml, hown, hts⟩ (c_X0_bend l g H.size aC cx cy chx chy (ta * v_1) (ta * v_2)) (cwV 2 hts gX0_addRing_X0_bend rfl rfl rfl (by decide +kernel) ⟨Nat.le_of_ble_eq_true rfl, Nat.le_of_ble_eq_true rfl⟩) ⟨xB_blind, va_recv hK hP (ci := 3) (q0 := 0) rfl rfl, hpre _⟩ rfl rfl hl.1 rfl (lv_room (Nat.le_of_ble_eq_true rfl)) dX0_addRing_15 ⟨Nat.le_of_ble_eq_true rfl, Nat.le_of_ble_eq_true rfl⟩) (fun (u : Unit) => [(aC, .inr (3, [.int (iI (cx + (chx + (ta * v_1)))), .int (iI (cy + (chy + (ta * v_2)))), .int (iI (chx + (ta * v_1))), .int (iI (chy + (ta * v_2)))]))]) rfl rfl (by decide) (fun _ => rfl) rfl (fun u H locs hv_3 hP hD hS => ?_)
    have hP : va_P (gD g) vwCl [(aC, .inr (3, [.int (iI (cx + (chx + (ta * v_1)))), .int (iI (cy + (chy + (ta * v_2)))), .int (iI (chx + (ta * v_1))), .int (iI (chy + (ta * v_2)))]))] H := hP
    have hD : va_D A [(aC, .inr (3, [.int (iI (cx + (chx + (ta * v_1)))), .int (iI (cy + (chy + (ta * v_2)))), .int (iI (chx + (ta * v_1))), .int (iI (chy + (ta * v_2)))]))] := hD
    have q_4 : (cx + (chx + ta * toSide po)) = (cx + (chx + (ta * v_1))) := by
      first
      | (
         first | rfl | omega | (subst_vars; first | rfl | omega))
      | fail "q9"
    have q_5 : (cy + (chy + ta * upward po)) = (cy + (chy + (ta * v_2))) := by
      first
      | (
         first | rfl | omega | (subst_vars; first | rfl | omega))
      | fail "q9"
    have q_6 : (chx + ta * toSide po) = (chx + (ta * v_1)) := by
      first
      | (
         first | rfl | omega | (subst_vars; first | rfl | omega))
      | fail "q9"
    have q_7 : (chy + ta * upward po) = (chy + (ta * v_2)) := by
      first
      | (
         first | rfl | omega | (subst_vars; first | rfl | omega))
      | fail "q9"
    have hw_8 := (congr (congr (congr (congrArg (fun (z0 : Int) (z1 : Int) (z2 : Int) (z3 : Int) => ([(aC, .inr (3, [.int (iI z0), .int (iI z1), .int (iI z2), .int (iI z3)]))] : va_W)) q_4.symm) q_5.symm) q_6.symm) q_7.symm)
    rw [hQ9]
    exact x_vret hx hb hr hlocks hP hD hS (S := Unit) (Φ := _) (W1 := _) dX0_addRing_18 () trivial hw_8 (Nat.le_of_ble_eq_true rfl) (Nat.le_of_ble_eq_true rfl)
  rw [hH, hlo, hQ9] at goal_
  exact goal_

set_option maxHeartbeats 4000000 in
set_option maxRecDepth 100000 in
theorem c_X1_isKnown (l : Launch) (g : xg) (sz : Nat) (aG aGn aGw aGs : Nat) (kn rg : Int) (hkn : 0 ≤ kn ∧ kn ≤ 200) (hrg : iR rg) : Met l yX1_isKnown wsX1_isKnown { frames := 0, cells := 0, slots := 0, locals := 0 } (va_Pc [.ref aG, .int (iI rg)] (xB g [(aG, .inr (4, [.ref aGn, .ref aGw, .ref aGs, .int (iI kn)]))] sz)) (va_Qi (fun r u => r = iI ((fun (u : Unit) => bI (0 ≤ rg ∧ rg < kn)) u) ∧ (fun (u : Unit) => True) u) (fun u t => xE g (va_A [(aG, .inr (4, [.ref aGn, .ref aGw, .ref aGs, .int (iI kn)]))] sz) ((fun (u : Unit) => [(aG, .inr (4, [.ref aGn, .ref aGw, .ref aGs, .int (iI kn)]))]) u) t) (va_A [(aG, .inr (4, [.ref aGn, .ref aGw, .ref aGs, .int (iI kn)]))] sz)) 0 0 (va_A [(aG, .inr (4, [.ref aGn, .ref aGw, .ref aGs, .int (iI kn)]))] sz) := by
  refine x_enter (y := yX1_isKnown) (ws := wsX1_isKnown) (g := g) (sz := sz) (av := [.ref aG, .int (iI rg)]) (WS := [(aG, .inr (4, [.ref aGn, .ref aGw, .ref aGs, .int (iI kn)]))]) (cc := cX1_isKnown) (maxL := 2) (ret := some .boolean) (Qc := (fun A => (va_Qi (fun r u => r = iI ((fun (u : Unit) => bI (0 ≤ rg ∧ rg < kn)) u) ∧ (fun (u : Unit) => True) u) (fun u t => xE g A ((fun (u : Unit) => [(aG, .inr (4, [.ref aGn, .ref aGw, .ref aGs, .int (iI kn)]))]) u) t) A))) (by decide) rfl (Nat.le_of_ble_eq_true rfl) ?_
  intro p e s m args below meth c A ls hx hb hr hml hown hts hlocks hname hC hP hD hS hA hl
  have hK := hC.1
  have hown : s.vm.findClass RX1 = some m.cls := hown
  have hin1 : ∀ w ∈ u_ws RX1 TX1 4, w ∈ wsX1_isKnown := by decide +kernel
  have hl : lv_has ls 2 [(0, .ref aG), (1, .int (iI rg))] := hl
  obtain ⟨H, hH⟩ : ∃ z, z = s.heap := ⟨_, rfl⟩
  obtain ⟨locs, hlo⟩ : ∃ z : List Loc, z = [] := ⟨_, rfl⟩
  obtain ⟨Q9, hQ9⟩ : ∃ z, z = MQ below (va_Qi (fun r u => r = iI ((fun (u : Unit) => bI (0 ≤ rg ∧ rg < kn)) u) ∧ (fun (u : Unit) => True) u) (fun u t => xE g A ((fun (u : Unit) => [(aG, .inr (4, [.ref aGn, .ref aGw, .ref aGs, .int (iI kn)]))]) u) t) A) args s 0 0 A := ⟨_, rfl⟩
  have hP : va_P (gD g) vwCl [(aG, .inr (4, [.ref aGn, .ref aGw, .ref aGs, .int (iI kn)]))] H := by rw [hH]; exact hP
  have hS : va_S A s.heap H locs := by rw [hH, hlo]; exact hS
  have goal_ : W p l e { frames := 0, cells := 0, slots := 0, locals := 0 } s m args below meth c H locs 0 0 Q9 (F0 m 0 ls []) := by
    clear hH hlo
    refine lv_iload_n hx hb dX1_isKnown_0 rfl (lv_at hl 1 rfl) ?_
    refine x_if_lt (tgt := 16) hx hb (by omega) dX1_isKnown_1 (by decide) (fun c_1 => ?_) (fun c_1 => ?_)
    · skip
      refine x_iconst hx hb dX1_isKnown_16 ?_
      rw [hQ9]
      exact x_iret hx hb hr hlocks hP hD hS (S := Unit) (by decide) dX1_isKnown_17 () (bI_f (by omega)).symm trivial rfl (Nat.le_of_ble_eq_true rfl) (Nat.le_of_ble_eq_true rfl)
    · skip
      refine lv_iload_n hx hb dX1_isKnown_4 rfl (lv_at hl 1 rfl) ?_
      refine lv_aload_n hx hb dX1_isKnown_5 rfl (lv_at hl 0 rfl) ?_
      refine va_get (D := gD g) (ci := 4) (v := .int (iI kn)) (C := RX1) (T := TX1) (N := 4) hx hb hts hin1 hown hK hP 0 rfl rfl 3 (by decide) (hts (.fieldLink RX1 21 "TunnelRing$Ground" "known" "I") (List.mem_of_getElem? (i := 1) rfl)) (fun _ h9 => h9) rfl dX1_isKnown_6 ?_
      refine x_cmp_ge (tgt := 16) hx hb (by omega) (by omega) dX1_isKnown_9 (by decide) (fun c_2 => ?_) (fun c_2 => ?_)
      · skip
        refine x_iconst hx hb dX1_isKnown_16 ?_
        rw [hQ9]
        exact x_iret hx hb hr hlocks hP hD hS (S := Unit) (by decide) dX1_isKnown_17 () (bI_f (by omega)).symm trivial rfl (Nat.le_of_ble_eq_true rfl) (Nat.le_of_ble_eq_true rfl)
      · skip
        refine x_iconst hx hb dX1_isKnown_12 ?_
        refine lv_goto (tgt := 17) hx hb dX1_isKnown_13 (by decide) ?_
        rw [hQ9]
        exact x_iret hx hb hr hlocks hP hD hS (S := Unit) (by decide) dX1_isKnown_17 () (bI_t (by omega)).symm trivial rfl (Nat.le_of_ble_eq_true rfl) (Nat.le_of_ble_eq_true rfl)
  rw [hH, hlo, hQ9] at goal_
  exact goal_

set_option maxHeartbeats 4000000 in
set_option maxRecDepth 100000 in
theorem c_X1_needOf (l : Launch) (g : xg) (sz : Nat) (aG aGn aGw aGs : Nat) (kn rg : Int) (nd : Int → Int) (hkn : 0 ≤ kn ∧ kn ≤ 200) (hrg : iR rg) (hb_nd : bnd nd 0 100) : Met l yX1_needOf wsX1_needOf { frames := 1, cells := 0, slots := 0, locals := 21 } (va_Pc [.ref aG, .int (iI rg)] (xB g [(aG, .inr (4, [.ref aGn, .ref aGw, .ref aGs, .int (iI kn)])), (aGn, .inl (gI g, 200, .inl (ar nd)))] sz)) (va_Qi (fun r u => r = iI ((fun (u : Unit) => gt0 kn nd rg) u) ∧ (fun (u : Unit) => 0 ≤ (gt0 kn nd rg) ∧ (gt0 kn nd rg) ≤ 100) u) (fun u t => xE g (va_A [(aG, .inr (4, [.ref aGn, .ref aGw, .ref aGs, .int (iI kn)])), (aGn, .inl (gI g, 200, .inl (ar nd)))] sz) ((fun (u : Unit) => [(aG, .inr (4, [.ref aGn, .ref aGw, .ref aGs, .int (iI kn)])), (aGn, .inl (gI g, 200, .inl (ar nd)))]) u) t) (va_A [(aG, .inr (4, [.ref aGn, .ref aGw, .ref aGs, .int (iI kn)])), (aGn, .inl (gI g, 200, .inl (ar nd)))] sz)) 0 0 (va_A [(aG, .inr (4, [.ref aGn, .ref aGw, .ref aGs, .int (iI kn)])), (aGn, .inl (gI g, 200, .inl (ar nd)))] sz) := by
  refine x_enter (y := yX1_needOf) (ws := wsX1_needOf) (g := g) (sz := sz) (av := [.ref aG, .int (iI rg)]) (WS := [(aG, .inr (4, [.ref aGn, .ref aGw, .ref aGs, .int (iI kn)])), (aGn, .inl (gI g, 200, .inl (ar nd)))]) (cc := cX1_needOf) (maxL := 2) (ret := some .int) (Qc := (fun A => (va_Qi (fun r u => r = iI ((fun (u : Unit) => gt0 kn nd rg) u) ∧ (fun (u : Unit) => 0 ≤ (gt0 kn nd rg) ∧ (gt0 kn nd rg) ≤ 100) u) (fun u t => xE g A ((fun (u : Unit) => [(aG, .inr (4, [.ref aGn, .ref aGw, .ref aGs, .int (iI kn)])), (aGn, .inl (gI g, 200, .inl (ar nd)))]) u) t) A))) (by decide) rfl (Nat.le_of_ble_eq_true rfl) ?_
  intro p e s m args below meth c A ls hx hb hr hml hown hts hlocks hname hC hP hD hS hA hl
  have hK := hC.1
  have hown : s.vm.findClass RX1 = some m.cls := hown
  have hin1 : ∀ w ∈ u_ws RX1 TX1 4, w ∈ wsX1_needOf := by decide +kernel
  have hl : lv_has ls 2 [(0, .ref aG), (1, .int (iI rg))] := hl
  obtain ⟨H, hH⟩ : ∃ z, z = s.heap := ⟨_, rfl⟩
  obtain ⟨locs, hlo⟩ : ∃ z : List Loc, z = [] := ⟨_, rfl⟩
  obtain ⟨Q9, hQ9⟩ : ∃ z, z = MQ below (va_Qi (fun r u => r = iI ((fun (u : Unit) => gt0 kn nd rg) u) ∧ (fun (u : Unit) => 0 ≤ (gt0 kn nd rg) ∧ (gt0 kn nd rg) ≤ 100) u) (fun u t => xE g A ((fun (u : Unit) => [(aG, .inr (4, [.ref aGn, .ref aGw, .ref aGs, .int (iI kn)])), (aGn, .inl (gI g, 200, .inl (ar nd)))]) u) t) A) args s 0 0 A := ⟨_, rfl⟩
  have hP : va_P (gD g) vwCl [(aG, .inr (4, [.ref aGn, .ref aGw, .ref aGs, .int (iI kn)])), (aGn, .inl (gI g, 200, .inl (ar nd)))] H := by rw [hH]; exact hP
  have hS : va_S A s.heap H locs := by rw [hH, hlo]; exact hS
  have goal_ : W p l e { frames := 1, cells := 0, slots := 0, locals := 21 } s m args below meth c H locs 0 0 Q9 (F0 m 0 ls []) := by
    clear hH hlo
    refine lv_aload_n hx hb dX1_needOf_0 rfl (lv_at hl 0 rfl) ?_
    refine lv_iload_n hx hb dX1_needOf_1 rfl (lv_at hl 1 rfl) ?_
    refine x_calli (S := Unit) (wc := [(aG, .inr (4, [.ref aGn, .ref aGw, .ref aGs, .int (iI kn)]))]) (wr := [(aGn, .inl (gI g, 200, .inl (ar nd)))]) hC hP hD hS hA [0] [1] [1, 0] rfl rfl (fun hpre => va_runV (As := [.int (iI rg)]) (rest := []) ⟨hx, hb, hml, hown, hts⟩ (c_X1_isKnown l g H.size aG aGn aGw aGs kn rg (by first | (first | assumption | omega | exact bnd_up (by assumption) (by omega) (by omega)) | fail "q8") (by first | (first | assumption | omega | exact bnd_up (by assumption) (by omega) (by omega)) | fail "q8")) (cwV 1 hts gX1_needOf_X1_isKnown rfl rfl rfl (by decide +kernel) ⟨Nat.le_of_ble_eq_true rfl, Nat.le_of_ble_eq_true rfl⟩) ⟨xB_blind, va_recv hK hP (ci := 4) (q0 := 0) rfl rfl, hpre _⟩ rfl rfl hl.1 rfl (lv_room (Nat.le_of_ble_eq_true rfl)) dX1_needOf_2 ⟨Nat.le_of_ble_eq_true rfl, Nat.le_of_ble_eq_true rfl⟩) (fun (u : Unit) => [(aG, .inr (4, [.ref aGn, .ref aGw, .ref aGs, .int (iI kn)])), (aGn, .inl (gI g, 200, .inl (ar nd)))]) rfl rfl (by decide) (fun _ => rfl) rfl (fun u v_1 H locs hv_1 pv_1 hP hD hS => ?_)
    have hP : va_P (gD g) vwCl [(aG, .inr (4, [.ref aGn, .ref aGw, .ref aGs, .int (iI kn)])), (aGn, .inl (gI g, 200, .inl (ar nd)))] H := hP
    have hD : va_D A [(aG, .inr (4, [.ref aGn, .ref aGw, .ref aGs, .int (iI kn)])), (aGn, .inl (gI g, 200, .inl (ar nd)))] := hD
    have hv_1 : v_1 = bI (0 ≤ rg ∧ rg < kn) := hv_1
    refine x_top hv_1 ?_
    refine x_ifb_eq (tgt := 17) (P := 0 ≤ rg ∧ rg < kn) hx hb dX1_needOf_5 (by decide) (fun c_2 => ?_) (fun c_2 => ?_)
    · skip
      refine x_iconst hx hb dX1_needOf_17 ?_
      rw [hQ9]
      exact x_iret hx hb hr hlocks hP hD hS (S := Unit) rfl dX1_needOf_18 () (by
          first
          | (
             unfold gt0
             subst_vars
             first | rw [if_pos (by omega)] | rw [if_neg (by omega)])
          | fail "q9") (by
          first
          | (
             exact gt0_r hb_nd (by omega) (by omega))
          | fail "q9") rfl (Nat.le_of_ble_eq_true rfl) (Nat.le_of_ble_eq_true rfl)
    · skip
      refine lv_aload_n hx hb dX1_needOf_8 rfl (lv_at hl 0 rfl) ?_
      refine va_get (D := gD g) (ci := 4) (v := .ref aGn) (C := RX1) (T := TX1) (N := 4) hx hb hts hin1 hown hK hP 0 rfl rfl 0 (by decide) (hts (.fieldLink RX1 9 "TunnelRing$Ground" "need" "[I") (List.mem_of_getElem? (i := 1) rfl)) (fun _ h9 => h9) rfl dX1_needOf_9 ?_
      refine lv_iload_n hx hb dX1_needOf_12 rfl (lv_at hl 1 rfl) ?_
      refine x_iald hx hb hK hP 1 0 rfl rfl (by omega) (by omega) (Nat.le_of_ble_eq_true rfl) dX1_needOf_13 (fun v_3 hv_3 => ?_)
      have bv_3 : 0 ≤ v_3 ∧ v_3 ≤ 100 := by rw [hv_3]; exact hb_nd _
      refine lv_goto (tgt := 18) hx hb dX1_needOf_14 (by decide) ?_
      rw [hQ9]
      exact x_iret hx hb hr hlocks hP hD hS (S := Unit) rfl dX1_needOf_18 () (by
          first
          | (
             unfold gt0
             subst_vars
             first | rw [if_pos (by omega)] | rw [if_neg (by omega)])
          | fail "q9") (by
          first
          | (
             exact gt0_r hb_nd (by omega) (by omega))
          | fail "q9") rfl (Nat.le_of_ble_eq_true rfl) (Nat.le_of_ble_eq_true rfl)
  rw [hH, hlo, hQ9] at goal_
  exact goal_

set_option maxHeartbeats 4000000 in
set_option maxRecDepth 100000 in
theorem c_X1_weaknessOf (l : Launch) (g : xg) (sz : Nat) (aG aGn aGw aGs : Nat) (kn rg : Int) (wk : Int → Int) (hkn : 0 ≤ kn ∧ kn ≤ 200) (hrg : iR rg) (hb_wk : bnd wk 0 20) : Met l yX1_weaknessOf wsX1_weaknessOf { frames := 1, cells := 0, slots := 0, locals := 21 } (va_Pc [.ref aG, .int (iI rg)] (xB g [(aG, .inr (4, [.ref aGn, .ref aGw, .ref aGs, .int (iI kn)])), (aGw, .inl (gI g, 200, .inl (ar wk)))] sz)) (va_Qi (fun r u => r = iI ((fun (u : Unit) => gt0 kn wk rg) u) ∧ (fun (u : Unit) => 0 ≤ (gt0 kn wk rg) ∧ (gt0 kn wk rg) ≤ 20) u) (fun u t => xE g (va_A [(aG, .inr (4, [.ref aGn, .ref aGw, .ref aGs, .int (iI kn)])), (aGw, .inl (gI g, 200, .inl (ar wk)))] sz) ((fun (u : Unit) => [(aG, .inr (4, [.ref aGn, .ref aGw, .ref aGs, .int (iI kn)])), (aGw, .inl (gI g, 200, .inl (ar wk)))]) u) t) (va_A [(aG, .inr (4, [.ref aGn, .ref aGw, .ref aGs, .int (iI kn)])), (aGw, .inl (gI g, 200, .inl (ar wk)))] sz)) 0 0 (va_A [(aG, .inr (4, [.ref aGn, .ref aGw, .ref aGs, .int (iI kn)])), (aGw, .inl (gI g, 200, .inl (ar wk)))] sz) := by
  refine x_enter (y := yX1_weaknessOf) (ws := wsX1_weaknessOf) (g := g) (sz := sz) (av := [.ref aG, .int (iI rg)]) (WS := [(aG, .inr (4, [.ref aGn, .ref aGw, .ref aGs, .int (iI kn)])), (aGw, .inl (gI g, 200, .inl (ar wk)))]) (cc := cX1_weaknessOf) (maxL := 2) (ret := some .int) (Qc := (fun A => (va_Qi (fun r u => r = iI ((fun (u : Unit) => gt0 kn wk rg) u) ∧ (fun (u : Unit) => 0 ≤ (gt0 kn wk rg) ∧ (gt0 kn wk rg) ≤ 20) u) (fun u t => xE g A ((fun (u : Unit) => [(aG, .inr (4, [.ref aGn, .ref aGw, .ref aGs, .int (iI kn)])), (aGw, .inl (gI g, 200, .inl (ar wk)))]) u) t) A))) (by decide) rfl (Nat.le_of_ble_eq_true rfl) ?_
  intro p e s m args below meth c A ls hx hb hr hml hown hts hlocks hname hC hP hD hS hA hl
  have hK := hC.1
  have hown : s.vm.findClass RX1 = some m.cls := hown
  have hin1 : ∀ w ∈ u_ws RX1 TX1 4, w ∈ wsX1_weaknessOf := by decide +kernel
  have hl : lv_has ls 2 [(0, .ref aG), (1, .int (iI rg))] := hl
  obtain ⟨H, hH⟩ : ∃ z, z = s.heap := ⟨_, rfl⟩
  obtain ⟨locs, hlo⟩ : ∃ z : List Loc, z = [] := ⟨_, rfl⟩
  obtain ⟨Q9, hQ9⟩ : ∃ z, z = MQ below (va_Qi (fun r u => r = iI ((fun (u : Unit) => gt0 kn wk rg) u) ∧ (fun (u : Unit) => 0 ≤ (gt0 kn wk rg) ∧ (gt0 kn wk rg) ≤ 20) u) (fun u t => xE g A ((fun (u : Unit) => [(aG, .inr (4, [.ref aGn, .ref aGw, .ref aGs, .int (iI kn)])), (aGw, .inl (gI g, 200, .inl (ar wk)))]) u) t) A) args s 0 0 A := ⟨_, rfl⟩
  have hP : va_P (gD g) vwCl [(aG, .inr (4, [.ref aGn, .ref aGw, .ref aGs, .int (iI kn)])), (aGw, .inl (gI g, 200, .inl (ar wk)))] H := by rw [hH]; exact hP
  have hS : va_S A s.heap H locs := by rw [hH, hlo]; exact hS
  have goal_ : W p l e { frames := 1, cells := 0, slots := 0, locals := 21 } s m args below meth c H locs 0 0 Q9 (F0 m 0 ls []) := by
    clear hH hlo
    refine lv_aload_n hx hb dX1_weaknessOf_0 rfl (lv_at hl 0 rfl) ?_
    refine lv_iload_n hx hb dX1_weaknessOf_1 rfl (lv_at hl 1 rfl) ?_
    refine x_calli (S := Unit) (wc := [(aG, .inr (4, [.ref aGn, .ref aGw, .ref aGs, .int (iI kn)]))]) (wr := [(aGw, .inl (gI g, 200, .inl (ar wk)))]) hC hP hD hS hA [0] [1] [1, 0] rfl rfl (fun hpre => va_runV (As := [.int (iI rg)]) (rest := []) ⟨hx, hb, hml, hown, hts⟩ (c_X1_isKnown l g H.size aG aGn aGw aGs kn rg (by first | (first | assumption | omega | exact bnd_up (by assumption) (by omega) (by omega)) | fail "q8") (by first | (first | assumption | omega | exact bnd_up (by assumption) (by omega) (by omega)) | fail "q8")) (cwV 1 hts gX1_weaknessOf_X1_isKnown rfl rfl rfl (by decide +kernel) ⟨Nat.le_of_ble_eq_true rfl, Nat.le_of_ble_eq_true rfl⟩) ⟨xB_blind, va_recv hK hP (ci := 4) (q0 := 0) rfl rfl, hpre _⟩ rfl rfl hl.1 rfl (lv_room (Nat.le_of_ble_eq_true rfl)) dX1_weaknessOf_2 ⟨Nat.le_of_ble_eq_true rfl, Nat.le_of_ble_eq_true rfl⟩) (fun (u : Unit) => [(aG, .inr (4, [.ref aGn, .ref aGw, .ref aGs, .int (iI kn)])), (aGw, .inl (gI g, 200, .inl (ar wk)))]) rfl rfl (by decide) (fun _ => rfl) rfl (fun u v_1 H locs hv_1 pv_1 hP hD hS => ?_)
    have hP : va_P (gD g) vwCl [(aG, .inr (4, [.ref aGn, .ref aGw, .ref aGs, .int (iI kn)])), (aGw, .inl (gI g, 200, .inl (ar wk)))] H := hP
    have hD : va_D A [(aG, .inr (4, [.ref aGn, .ref aGw, .ref aGs, .int (iI kn)])), (aGw, .inl (gI g, 200, .inl (ar wk)))] := hD
    have hv_1 : v_1 = bI (0 ≤ rg ∧ rg < kn) := hv_1
    refine x_top hv_1 ?_
    refine x_ifb_eq (tgt := 17) (P := 0 ≤ rg ∧ rg < kn) hx hb dX1_weaknessOf_5 (by decide) (fun c_2 => ?_) (fun c_2 => ?_)
    · skip
      refine x_iconst hx hb dX1_weaknessOf_17 ?_
      rw [hQ9]
      exact x_iret hx hb hr hlocks hP hD hS (S := Unit) rfl dX1_weaknessOf_18 () (by
          first
          | (
             unfold gt0
             subst_vars
             first | rw [if_pos (by omega)] | rw [if_neg (by omega)])
          | fail "q9") (by
          first
          | (
             exact gt0_r hb_wk (by omega) (by omega))
          | fail "q9") rfl (Nat.le_of_ble_eq_true rfl) (Nat.le_of_ble_eq_true rfl)
    · skip
      refine lv_aload_n hx hb dX1_weaknessOf_8 rfl (lv_at hl 0 rfl) ?_
      refine va_get (D := gD g) (ci := 4) (v := .ref aGw) (C := RX1) (T := TX1) (N := 4) hx hb hts hin1 hown hK hP 0 rfl rfl 1 (by decide) (hts (.fieldLink RX1 15 "TunnelRing$Ground" "weakness" "[I") (List.mem_of_getElem? (i := 1) rfl)) (fun _ h9 => h9) rfl dX1_weaknessOf_9 ?_
      refine lv_iload_n hx hb dX1_weaknessOf_12 rfl (lv_at hl 1 rfl) ?_
      refine x_iald hx hb hK hP 1 0 rfl rfl (by omega) (by omega) (Nat.le_of_ble_eq_true rfl) dX1_weaknessOf_13 (fun v_3 hv_3 => ?_)
      have bv_3 : 0 ≤ v_3 ∧ v_3 ≤ 20 := by rw [hv_3]; exact hb_wk _
      refine lv_goto (tgt := 18) hx hb dX1_weaknessOf_14 (by decide) ?_
      rw [hQ9]
      exact x_iret hx hb hr hlocks hP hD hS (S := Unit) rfl dX1_weaknessOf_18 () (by
          first
          | (
             unfold gt0
             subst_vars
             first | rw [if_pos (by omega)] | rw [if_neg (by omega)])
          | fail "q9") (by
          first
          | (
             exact gt0_r hb_wk (by omega) (by omega))
          | fail "q9") rfl (Nat.le_of_ble_eq_true rfl) (Nat.le_of_ble_eq_true rfl)
  rw [hH, hlo, hQ9] at goal_
  exact goal_

set_option maxHeartbeats 4000000 in
set_option maxRecDepth 100000 in
theorem c_X1_missing (l : Launch) (g : xg) (sz : Nat) (aG aGn aGw aGs : Nat) (kn rg pre : Int) (nd : Int → Int) (hkn : 0 ≤ kn ∧ kn ≤ 200) (hrg : iR rg) (hb_nd : bnd nd 0 100) (hpre : 0 ≤ pre ∧ pre ≤ 100) : Met l yX1_missing wsX1_missing { frames := 2, cells := 0, slots := 0, locals := 42 } (va_Pc [.ref aG, .int (iI rg), .int (iI pre)] (xB g [(aG, .inr (4, [.ref aGn, .ref aGw, .ref aGs, .int (iI kn)])), (aGn, .inl (gI g, 200, .inl (ar nd)))] sz)) (va_Qi (fun r u => r = iI ((fun (u : Unit) => mx 0 (gt0 kn nd rg - pre)) u) ∧ (fun (u : Unit) => 0 ≤ (mx 0 (gt0 kn nd rg - pre)) ∧ (mx 0 (gt0 kn nd rg - pre)) ≤ 100) u) (fun u t => xE g (va_A [(aG, .inr (4, [.ref aGn, .ref aGw, .ref aGs, .int (iI kn)])), (aGn, .inl (gI g, 200, .inl (ar nd)))] sz) ((fun (u : Unit) => [(aG, .inr (4, [.ref aGn, .ref aGw, .ref aGs, .int (iI kn)])), (aGn, .inl (gI g, 200, .inl (ar nd)))]) u) t) (va_A [(aG, .inr (4, [.ref aGn, .ref aGw, .ref aGs, .int (iI kn)])), (aGn, .inl (gI g, 200, .inl (ar nd)))] sz)) 0 0 (va_A [(aG, .inr (4, [.ref aGn, .ref aGw, .ref aGs, .int (iI kn)])), (aGn, .inl (gI g, 200, .inl (ar nd)))] sz) := by
  refine x_enter (y := yX1_missing) (ws := wsX1_missing) (g := g) (sz := sz) (av := [.ref aG, .int (iI rg), .int (iI pre)]) (WS := [(aG, .inr (4, [.ref aGn, .ref aGw, .ref aGs, .int (iI kn)])), (aGn, .inl (gI g, 200, .inl (ar nd)))]) (cc := cX1_missing) (maxL := 3) (ret := some .int) (Qc := (fun A => (va_Qi (fun r u => r = iI ((fun (u : Unit) => mx 0 (gt0 kn nd rg - pre)) u) ∧ (fun (u : Unit) => 0 ≤ (mx 0 (gt0 kn nd rg - pre)) ∧ (mx 0 (gt0 kn nd rg - pre)) ≤ 100) u) (fun u t => xE g A ((fun (u : Unit) => [(aG, .inr (4, [.ref aGn, .ref aGw, .ref aGs, .int (iI kn)])), (aGn, .inl (gI g, 200, .inl (ar nd)))]) u) t) A))) (by decide) rfl (Nat.le_of_ble_eq_true rfl) ?_
  intro p e s m args below meth c A ls hx hb hr hml hown hts hlocks hname hC hP hD hS hA hl
  have hK := hC.1
  have hown : s.vm.findClass RX1 = some m.cls := hown
  have hl : lv_has ls 3 [(0, .ref aG), (1, .int (iI rg)), (2, .int (iI pre))] := hl
  obtain ⟨H, hH⟩ : ∃ z, z = s.heap := ⟨_, rfl⟩
  obtain ⟨locs, hlo⟩ : ∃ z : List Loc, z = [] := ⟨_, rfl⟩
  obtain ⟨Q9, hQ9⟩ : ∃ z, z = MQ below (va_Qi (fun r u => r = iI ((fun (u : Unit) => mx 0 (gt0 kn nd rg - pre)) u) ∧ (fun (u : Unit) => 0 ≤ (mx 0 (gt0 kn nd rg - pre)) ∧ (mx 0 (gt0 kn nd rg - pre)) ≤ 100) u) (fun u t => xE g A ((fun (u : Unit) => [(aG, .inr (4, [.ref aGn, .ref aGw, .ref aGs, .int (iI kn)])), (aGn, .inl (gI g, 200, .inl (ar nd)))]) u) t) A) args s 0 0 A := ⟨_, rfl⟩
  have hP : va_P (gD g) vwCl [(aG, .inr (4, [.ref aGn, .ref aGw, .ref aGs, .int (iI kn)])), (aGn, .inl (gI g, 200, .inl (ar nd)))] H := by rw [hH]; exact hP
  have hS : va_S A s.heap H locs := by rw [hH, hlo]; exact hS
  have goal_ : W p l e { frames := 2, cells := 0, slots := 0, locals := 42 } s m args below meth c H locs 0 0 Q9 (F0 m 0 ls []) := by
    clear hH hlo
    refine x_iconst hx hb dX1_missing_0 ?_
    refine lv_aload_n hx hb dX1_missing_1 rfl (lv_at hl 0 rfl) ?_
    refine lv_iload_n hx hb dX1_missing_2 rfl (lv_at hl 1 rfl) ?_
    refine x_calli (S := Unit) (wc := [(aG, .inr (4, [.ref aGn, .ref aGw, .ref aGs, .int (iI kn)])), (aGn, .inl (gI g, 200, .inl (ar nd)))]) (wr := []) hC hP hD hS hA [0, 1] [] [0, 1] rfl rfl (fun hpre => va_runV (As := [.int (iI rg)]) (rest := [.int (iI 0)]) ⟨hx, hb, hml, hown, hts⟩ (c_X1_needOf l g H.size aG aGn aGw aGs kn rg nd (by first | (first | assumption | omega | exact bnd_up (by assumption) (by omega) (by omega)) | fail "q8") (by first | (first | assumption | omega | exact bnd_up (by assumption) (by omega) (by omega)) | fail "q8") (by first | (first | assumption | omega | exact bnd_up (by assumption) (by omega) (by omega)) | fail "q8")) (cwV 1 hts gX1_missing_X1_needOf rfl rfl rfl (by decide +kernel) ⟨Nat.le_of_ble_eq_true rfl, Nat.le_of_ble_eq_true rfl⟩) ⟨xB_blind, va_recv hK hP (ci := 4) (q0 := 0) rfl rfl, hpre _⟩ rfl rfl hl.1 rfl (lv_room (Nat.le_of_ble_eq_true rfl)) dX1_missing_3 ⟨Nat.le_of_ble_eq_true rfl, Nat.le_of_ble_eq_true rfl⟩) (fun (u : Unit) => [(aG, .inr (4, [.ref aGn, .ref aGw, .ref aGs, .int (iI kn)])), (aGn, .inl (gI g, 200, .inl (ar nd)))]) rfl rfl (by decide) (fun _ => rfl) rfl (fun u v_1 H locs hv_1 pv_1 hP hD hS => ?_)
    have hP : va_P (gD g) vwCl [(aG, .inr (4, [.ref aGn, .ref aGw, .ref aGs, .int (iI kn)])), (aGn, .inl (gI g, 200, .inl (ar nd)))] H := hP
    have hD : va_D A [(aG, .inr (4, [.ref aGn, .ref aGw, .ref aGs, .int (iI kn)])), (aGn, .inl (gI g, 200, .inl (ar nd)))] := hD
    have hv_1 : v_1 = gt0 kn nd rg := hv_1
    have pv_1 : 0 ≤ v_1 ∧ v_1 ≤ 100 := by first | exact pv_1 | (rw [hv_1]; exact pv_1)
    refine lv_iload_n hx hb dX1_missing_6 rfl (lv_at hl 2 rfl) ?_
    refine x_isub hx hb dX1_missing_7 ?_
    refine x_max hx hb (hml.trans hl.1.symm) hown (hts (.methodLink RX1 39 Lib.Math.max.name) (List.mem_of_getElem? (i := 1) rfl)) (hts (.static Lib.Math.max.name) (List.mem_of_getElem? (i := 2) rfl)) (hts (.initialized "java/lang/Math") (List.mem_of_getElem? (i := 3) rfl)) (hts (.code Lib.Math.max.name Lib.Math.max.code 2 (some .int)) (List.mem_of_getElem? (i := 4) rfl)) (Nat.le_of_ble_eq_true rfl) (Nat.le_of_ble_eq_true rfl) (Nat.le_of_ble_eq_true rfl) (Nat.le_of_ble_eq_true rfl) (by omega) (by omega) dX1_missing_8 (fun v_2 hv_2 => ?_)
    have bv_2 := mx_r 0 (v_1 - pre) hv_2
    rw [hQ9]
    exact x_iret hx hb hr hlocks hP hD hS (S := Unit) rfl dX1_missing_11 () (by
        first
        | (
           subst_vars
           rfl)
        | fail "q9") (by
        first
        | (
           have h1 := mx_r 0 (gt0 kn nd rg - pre) rfl
           have h2 := gt0_r (k := kn) (i := rg) hb_nd (by omega) (by omega)
           omega)
        | fail "q9") rfl (Nat.le_of_ble_eq_true rfl) (Nat.le_of_ble_eq_true rfl)
  rw [hH, hlo, hQ9] at goal_
  exact goal_

set_option maxHeartbeats 4000000 in
set_option maxRecDepth 100000 in
theorem c_X1_sink (l : Launch) (g : xg) (sz : Nat) (aG aGn aGw aGs : Nat) (kn rg fa : Int) (sk : Int → Int) (hkn : 0 ≤ kn ∧ kn ≤ 200) (hrg : iR rg) : Met l yX1_sink wsX1_sink { frames := 1, cells := 0, slots := 0, locals := 21 } (va_Pc [.ref aG, .int (iI rg), .int (iI fa)] (xB g [(aG, .inr (4, [.ref aGn, .ref aGw, .ref aGs, .int (iI kn)])), (aGs, .inl (gI g, 200, .inl (ar sk)))] sz)) (va_Qv (fun (u : Unit) => True) (fun u t => xE g (va_A [(aG, .inr (4, [.ref aGn, .ref aGw, .ref aGs, .int (iI kn)])), (aGs, .inl (gI g, 200, .inl (ar sk)))] sz) ((fun (u : Unit) => [(aG, .inr (4, [.ref aGn, .ref aGw, .ref aGs, .int (iI kn)])), (aGs, .inl (gI g, 200, .inl (ar (sinkF kn sk rg fa))))]) u) t) (va_A [(aG, .inr (4, [.ref aGn, .ref aGw, .ref aGs, .int (iI kn)])), (aGs, .inl (gI g, 200, .inl (ar sk)))] sz)) 0 0 (va_A [(aG, .inr (4, [.ref aGn, .ref aGw, .ref aGs, .int (iI kn)])), (aGs, .inl (gI g, 200, .inl (ar sk)))] sz) := by
  refine x_enter (y := yX1_sink) (ws := wsX1_sink) (g := g) (sz := sz) (av := [.ref aG, .int (iI rg), .int (iI fa)]) (WS := [(aG, .inr (4, [.ref aGn, .ref aGw, .ref aGs, .int (iI kn)])), (aGs, .inl (gI g, 200, .inl (ar sk)))]) (cc := cX1_sink) (maxL := 3) (ret := none) (Qc := (fun A => (va_Qv (fun (u : Unit) => True) (fun u t => xE g A ((fun (u : Unit) => [(aG, .inr (4, [.ref aGn, .ref aGw, .ref aGs, .int (iI kn)])), (aGs, .inl (gI g, 200, .inl (ar (sinkF kn sk rg fa))))]) u) t) A))) (by decide) rfl (Nat.le_of_ble_eq_true rfl) ?_
  intro p e s m args below meth c A ls hx hb hr hml hown hts hlocks hname hC hP hD hS hA hl
  have hK := hC.1
  have hown : s.vm.findClass RX1 = some m.cls := hown
  have hin1 : ∀ w ∈ u_ws RX1 TX1 4, w ∈ wsX1_sink := by decide +kernel
  have hl : lv_has ls 3 [(0, .ref aG), (1, .int (iI rg)), (2, .int (iI fa))] := hl
  obtain ⟨H, hH⟩ : ∃ z, z = s.heap := ⟨_, rfl⟩
  obtain ⟨locs, hlo⟩ : ∃ z : List Loc, z = [] := ⟨_, rfl⟩
  obtain ⟨Q9, hQ9⟩ : ∃ z, z = MQ below (va_Qv (fun (u : Unit) => True) (fun u t => xE g A ((fun (u : Unit) => [(aG, .inr (4, [.ref aGn, .ref aGw, .ref aGs, .int (iI kn)])), (aGs, .inl (gI g, 200, .inl (ar (sinkF kn sk rg fa))))]) u) t) A) args s 0 0 A := ⟨_, rfl⟩
  have hP : va_P (gD g) vwCl [(aG, .inr (4, [.ref aGn, .ref aGw, .ref aGs, .int (iI kn)])), (aGs, .inl (gI g, 200, .inl (ar sk)))] H := by rw [hH]; exact hP
  have hS : va_S A s.heap H locs := by rw [hH, hlo]; exact hS
  have goal_ : W p l e { frames := 1, cells := 0, slots := 0, locals := 21 } s m args below meth c H locs 0 0 Q9 (F0 m 0 ls []) := by
    clear hH hlo
    refine lv_aload_n hx hb dX1_sink_0 rfl (lv_at hl 0 rfl) ?_
    refine lv_iload_n hx hb dX1_sink_1 rfl (lv_at hl 1 rfl) ?_
    refine x_calli (S := Unit) (wc := [(aG, .inr (4, [.ref aGn, .ref aGw, .ref aGs, .int (iI kn)]))]) (wr := [(aGs, .inl (gI g, 200, .inl (ar sk)))]) hC hP hD hS hA [0] [1] [1, 0] rfl rfl (fun hpre => va_runV (As := [.int (iI rg)]) (rest := []) ⟨hx, hb, hml, hown, hts⟩ (c_X1_isKnown l g H.size aG aGn aGw aGs kn rg (by first | (first | assumption | omega | exact bnd_up (by assumption) (by omega) (by omega)) | fail "q8") (by first | (first | assumption | omega | exact bnd_up (by assumption) (by omega) (by omega)) | fail "q8")) (cwV 1 hts gX1_sink_X1_isKnown rfl rfl rfl (by decide +kernel) ⟨Nat.le_of_ble_eq_true rfl, Nat.le_of_ble_eq_true rfl⟩) ⟨xB_blind, va_recv hK hP (ci := 4) (q0 := 0) rfl rfl, hpre _⟩ rfl rfl hl.1 rfl (lv_room (Nat.le_of_ble_eq_true rfl)) dX1_sink_2 ⟨Nat.le_of_ble_eq_true rfl, Nat.le_of_ble_eq_true rfl⟩) (fun (u : Unit) => [(aG, .inr (4, [.ref aGn, .ref aGw, .ref aGs, .int (iI kn)])), (aGs, .inl (gI g, 200, .inl (ar sk)))]) rfl rfl (by decide) (fun _ => rfl) rfl (fun u v_1 H locs hv_1 pv_1 hP hD hS => ?_)
    have hP : va_P (gD g) vwCl [(aG, .inr (4, [.ref aGn, .ref aGw, .ref aGs, .int (iI kn)])), (aGs, .inl (gI g, 200, .inl (ar sk)))] H := hP
    have hD : va_D A [(aG, .inr (4, [.ref aGn, .ref aGw, .ref aGs, .int (iI kn)])), (aGs, .inl (gI g, 200, .inl (ar sk)))] := hD
    have hv_1 : v_1 = bI (0 ≤ rg ∧ rg < kn) := hv_1
    refine x_top hv_1 ?_
    refine x_ifb_eq (tgt := 18) (P := 0 ≤ rg ∧ rg < kn) hx hb dX1_sink_5 (by decide) (fun c_2 => ?_) (fun c_2 => ?_)
    · skip
      have q_3 : (sinkF kn sk rg fa) = sk := by
        first
        | (
           unfold sinkF
           subst_vars
           first | rw [if_pos (by omega)] | rw [if_neg (by omega)])
        | fail "q9"
      have hw_4 := (congrArg (fun (z0 : Int → Int) => ([(aG, .inr (4, [.ref aGn, .ref aGw, .ref aGs, .int (iI kn)])), (aGs, .inl (gI g, 200, .inl (ar z0)))] : va_W)) q_3.symm)
      rw [hQ9]
      exact x_vret hx hb hr hlocks hP hD hS (S := Unit) (Φ := _) (W1 := _) dX1_sink_18 () trivial hw_4 (Nat.le_of_ble_eq_true rfl) (Nat.le_of_ble_eq_true rfl)
    · skip
      refine lv_aload_n hx hb dX1_sink_8 rfl (lv_at hl 0 rfl) ?_
      refine va_get (D := gD g) (ci := 4) (v := .ref aGs) (C := RX1) (T := TX1) (N := 4) hx hb hts hin1 hown hK hP 0 rfl rfl 2 (by decide) (hts (.fieldLink RX1 18 "TunnelRing$Ground" "sinking" "[I") (List.mem_of_getElem? (i := 1) rfl)) (fun _ h9 => h9) rfl dX1_sink_9 ?_
      refine lv_iload_n hx hb dX1_sink_12 rfl (lv_at hl 1 rfl) ?_
      refine lv_dup2_11 hx hb dX1_sink_13 rfl rfl ?_
      refine x_iald hx hb hK hP 1 0 rfl rfl (by omega) (by omega) (Nat.le_of_ble_eq_true rfl) dX1_sink_14 (fun v_5 hv_5 => ?_)
      refine lv_iload_n hx hb dX1_sink_15 rfl (lv_at hl 2 rfl) ?_
      refine x_iadd hx hb dX1_sink_16 ?_
      obtain ⟨v_6, ev_6⟩ : ∃ z : Int, z = v_5 + fa := ⟨_, rfl⟩
      refine x_top ev_6.symm ?_
      refine x_iast hx hb hK hP hD hS 1 0 rfl rfl (by omega) (by omega) (Nat.le_of_ble_eq_true rfl) dX1_sink_17 (fun H locs hP hD hS => ?_)
      have hP : va_P (gD g) vwCl [(aG, .inr (4, [.ref aGn, .ref aGw, .ref aGs, .int (iI kn)])), (aGs, .inl (gI g, 200, .inl (ar (up sk rg v_6))))] H := hP
      have hD : va_D A [(aG, .inr (4, [.ref aGn, .ref aGw, .ref aGs, .int (iI kn)])), (aGs, .inl (gI g, 200, .inl (ar (up sk rg v_6))))] := hD
      have q_7 : (sinkF kn sk rg fa) = (up sk rg v_6) := by
        first
        | (
           unfold sinkF
           subst_vars
           first | rw [if_pos (by omega)] | rw [if_neg (by omega)])
        | fail "q9"
      have hw_8 := (congrArg (fun (z0 : Int → Int) => ([(aG, .inr (4, [.ref aGn, .ref aGw, .ref aGs, .int (iI kn)])), (aGs, .inl (gI g, 200, .inl (ar z0)))] : va_W)) q_7.symm)
      rw [hQ9]
      exact x_vret hx hb hr hlocks hP hD hS (S := Unit) (Φ := _) (W1 := _) dX1_sink_18 () trivial hw_8 (Nat.le_of_ble_eq_true rfl) (Nat.le_of_ble_eq_true rfl)
  rw [hH, hlo, hQ9] at goal_
  exact goal_

set_option maxHeartbeats 4000000 in
set_option maxRecDepth 100000 in
theorem c_X1_extend (l : Launch) (g : xg) (sz : Nat) (aG aGn aGw aGs : Nat) (kn rgs nn nw : Int) (nd wk : Int → Int) (hkn : 0 ≤ kn ∧ kn ≤ 200) (hrgs : 1 ≤ rgs ∧ rgs ≤ 50) (hsum : kn + rgs ≤ 200) : Met l yX1_extend wsX1_extend { frames := 1, cells := 0, slots := 0, locals := 22 } (va_Pc [.ref aG, .int (iI rgs), .int (iI nn), .int (iI nw)] (xB g [(aG, .inr (4, [.ref aGn, .ref aGw, .ref aGs, .int (iI kn)])), (aGn, .inl (gI g, 200, .inl (ar nd))), (aGw, .inl (gI g, 200, .inl (ar wk)))] sz)) (va_Qv (fun (u : Unit) => True) (fun u t => xE g (va_A [(aG, .inr (4, [.ref aGn, .ref aGw, .ref aGs, .int (iI kn)])), (aGn, .inl (gI g, 200, .inl (ar nd))), (aGw, .inl (gI g, 200, .inl (ar wk)))] sz) ((fun (u : Unit) => [(aG, .inr (4, [.ref aGn, .ref aGw, .ref aGs, .int (iI (kn + rgs))])), (aGn, .inl (gI g, 200, .inl (ar (fil nd kn (kn + rgs) nn)))), (aGw, .inl (gI g, 200, .inl (ar (fil wk kn (kn + rgs) nw))))]) u) t) (va_A [(aG, .inr (4, [.ref aGn, .ref aGw, .ref aGs, .int (iI kn)])), (aGn, .inl (gI g, 200, .inl (ar nd))), (aGw, .inl (gI g, 200, .inl (ar wk)))] sz)) 0 0 (va_A [(aG, .inr (4, [.ref aGn, .ref aGw, .ref aGs, .int (iI kn)])), (aGn, .inl (gI g, 200, .inl (ar nd))), (aGw, .inl (gI g, 200, .inl (ar wk)))] sz) := by
  refine x_enter (y := yX1_extend) (ws := wsX1_extend) (g := g) (sz := sz) (av := [.ref aG, .int (iI rgs), .int (iI nn), .int (iI nw)]) (WS := [(aG, .inr (4, [.ref aGn, .ref aGw, .ref aGs, .int (iI kn)])), (aGn, .inl (gI g, 200, .inl (ar nd))), (aGw, .inl (gI g, 200, .inl (ar wk)))]) (cc := cX1_extend) (maxL := 6) (ret := none) (Qc := (fun A => (va_Qv (fun (u : Unit) => True) (fun u t => xE g A ((fun (u : Unit) => [(aG, .inr (4, [.ref aGn, .ref aGw, .ref aGs, .int (iI (kn + rgs))])), (aGn, .inl (gI g, 200, .inl (ar (fil nd kn (kn + rgs) nn)))), (aGw, .inl (gI g, 200, .inl (ar (fil wk kn (kn + rgs) nw))))]) u) t) A))) (by decide) rfl (Nat.le_of_ble_eq_true rfl) ?_
  intro p e s m args below meth c A ls hx hb hr hml hown hts hlocks hname hC hP hD hS hA hl
  have hK := hC.1
  have hown : s.vm.findClass RX1 = some m.cls := hown
  have hin1 : ∀ w ∈ u_ws RX1 TX1 4, w ∈ wsX1_extend := by decide +kernel
  have hl : lv_has ls 6 [(0, .ref aG), (1, .int (iI rgs)), (2, .int (iI nn)), (3, .int (iI nw))] := hl
  obtain ⟨H, hH⟩ : ∃ z, z = s.heap := ⟨_, rfl⟩
  obtain ⟨locs, hlo⟩ : ∃ z : List Loc, z = [] := ⟨_, rfl⟩
  obtain ⟨Q9, hQ9⟩ : ∃ z, z = MQ below (va_Qv (fun (u : Unit) => True) (fun u t => xE g A ((fun (u : Unit) => [(aG, .inr (4, [.ref aGn, .ref aGw, .ref aGs, .int (iI (kn + rgs))])), (aGn, .inl (gI g, 200, .inl (ar (fil nd kn (kn + rgs) nn)))), (aGw, .inl (gI g, 200, .inl (ar (fil wk kn (kn + rgs) nw))))]) u) t) A) args s 0 0 A := ⟨_, rfl⟩
  have hP : va_P (gD g) vwCl [(aG, .inr (4, [.ref aGn, .ref aGw, .ref aGs, .int (iI kn)])), (aGn, .inl (gI g, 200, .inl (ar nd))), (aGw, .inl (gI g, 200, .inl (ar wk)))] H := by rw [hH]; exact hP
  have hS : va_S A s.heap H locs := by rw [hH, hlo]; exact hS
  have goal_ : W p l e { frames := 1, cells := 0, slots := 0, locals := 22 } s m args below meth c H locs 0 0 Q9 (F0 m 0 ls []) := by
    clear hH hlo
    refine x_sipush hx hb dX1_extend_0 (by decide) ?_
    refine lv_aload_n hx hb dX1_extend_3 rfl (lv_at hl 0 rfl) ?_
    refine va_get (D := gD g) (ci := 4) (v := .int (iI kn)) (C := RX1) (T := TX1) (N := 4) hx hb hts hin1 hown hK hP 0 rfl rfl 3 (by decide) (hts (.fieldLink RX1 21 "TunnelRing$Ground" "known" "I") (List.mem_of_getElem? (i := 1) rfl)) (fun _ h9 => h9) rfl dX1_extend_4 ?_
    refine lv_iload_n hx hb dX1_extend_7 rfl (lv_at hl 1 rfl) ?_
    refine x_iadd hx hb dX1_extend_8 ?_
    refine x_min hx hb (hml.trans hl.1.symm) hown (hts (.methodLink RX1 25 Lib.Math.min.name) (List.mem_of_getElem? (i := 2) rfl)) (hts (.static Lib.Math.min.name) (List.mem_of_getElem? (i := 3) rfl)) (hts (.initialized "java/lang/Math") (List.mem_of_getElem? (i := 4) rfl)) (hts (.code Lib.Math.min.name Lib.Math.min.code 2 (some .int)) (List.mem_of_getElem? (i := 5) rfl)) (Nat.le_of_ble_eq_true rfl) (Nat.le_of_ble_eq_true rfl) (Nat.le_of_ble_eq_true rfl) (Nat.le_of_ble_eq_true rfl) (by omega) (by omega) dX1_extend_9 (fun v_1 hv_1 => ?_)
    have bv_1 := mn_r 200 (kn + rgs) hv_1
    refine lv_istore (lv' := [(4, .int (iI v_1)), (0, .ref aG), (1, .int (iI rgs)), (2, .int (iI nn)), (3, .int (iI nw))]) hx hb dX1_extend_12 hl (by decide) rfl (fun ls hl => ?_)
    refine lv_aload_n hx hb dX1_extend_14 rfl (lv_at hl 1 rfl) ?_
    refine va_get (D := gD g) (ci := 4) (v := .int (iI kn)) (C := RX1) (T := TX1) (N := 4) hx hb hts hin1 hown hK hP 0 rfl rfl 3 (by decide) (hts (.fieldLink RX1 21 "TunnelRing$Ground" "known" "I") (List.mem_of_getElem? (i := 1) rfl)) (fun _ h9 => h9) rfl dX1_extend_15 ?_
    refine lv_istore (lv' := [(5, .int (iI kn)), (4, .int (iI v_1)), (0, .ref aG), (1, .int (iI rgs)), (2, .int (iI nn)), (3, .int (iI nw))]) hx hb dX1_extend_18 hl (by decide) rfl (fun ls hl => ?_)
    have lp20 : ∀ (n : Nat) (i1 : Int) (nd1 : Int → Int) (wk1 : Int → Int), (kn ≤ i1 ∧ i1 ≤ kn + rgs) → (nd1 = fil nd kn i1 nn) → (wk1 = fil wk kn i1 nw) → kn + rgs - i1 + 1 ≤ (n : Int) → ∀ (H : Heap) (locs : List Loc), va_P (gD g) vwCl [(aG, .inr (4, [.ref aGn, .ref aGw, .ref aGs, .int (iI kn)])), (aGn, .inl (gI g, 200, .inl (ar nd1))), (aGw, .inl (gI g, 200, .inl (ar wk1)))] H → va_D A [(aG, .inr (4, [.ref aGn, .ref aGw, .ref aGs, .int (iI kn)])), (aGn, .inl (gI g, 200, .inl (ar nd1))), (aGw, .inl (gI g, 200, .inl (ar wk1)))] → va_S A s.heap H locs → ∀ (ls : Array Slot), lv_has ls 6 [(5, .int (iI i1)), (4, .int (iI v_1)), (0, .ref aG), (1, .int (iI rgs)), (2, .int (iI nn)), (3, .int (iI nw))] → W p l e { frames := 1, cells := 0, slots := 0, locals := 22 } s m args below meth c H locs (0) (0) Q9 (F0 m 20 ls []) := by
      intro n
      induction n with
      | zero => intro i1 nd1 wk1 hi1 hnd1 hwk1 hm; exfalso; omega
      | succ n ih20 =>
        intro i1 nd1 wk1 hi1 hnd1 hwk1 hm H locs hP hD hS ls hl
        refine lv_iload hx hb dX1_extend_20 (lv_at hl 0 rfl) ?_
        refine lv_iload hx hb dX1_extend_22 (lv_at hl 1 rfl) ?_
        refine x_cmp_ge (tgt := 49) hx hb (by omega) (by omega) dX1_extend_24 (by decide) (fun c_2 => ?_) (fun c_2 => ?_)
        · skip
          refine lv_aload_n hx hb dX1_extend_49 rfl (lv_at hl 2 rfl) ?_
          refine lv_iload hx hb dX1_extend_50 (lv_at hl 1 rfl) ?_
          refine va_put (D := gD g) (ci := 4) (v := .int (iI v_1)) (ty := tyX1 3) (C := RX1) (T := TX1) (N := 4) hx hb hts hin1 tyX1 tyX1_ok nmX1 hown hK hP hD hS 0 rfl rfl 3 (by decide) (hts (.fieldLink RX1 21 "TunnelRing$Ground" "known" "I") (List.mem_of_getElem? (i := 1) rfl)) (fun _ h9 => h9) rfl (tyX1_ok 3 (by decide)) rfl rfl (Nat.le_of_ble_eq_true rfl) dX1_extend_52 (fun H locs hP hD hS => ?_)
          have hP : va_P (gD g) vwCl [(aG, .inr (4, [.ref aGn, .ref aGw, .ref aGs, .int (iI v_1)])), (aGn, .inl (gI g, 200, .inl (ar nd1))), (aGw, .inl (gI g, 200, .inl (ar wk1)))] H := hP
          have hD : va_D A [(aG, .inr (4, [.ref aGn, .ref aGw, .ref aGs, .int (iI v_1)])), (aGn, .inl (gI g, 200, .inl (ar nd1))), (aGw, .inl (gI g, 200, .inl (ar wk1)))] := hD
          have q_3 : (kn + rgs) = v_1 := by
            first
            | (
               first | rfl | omega | (subst_vars; first | rfl | omega))
            | fail "q9"
          have q_4 : (fil nd kn (kn + rgs) nn) = nd1 := by
            first
            | (
               rw [hnd1, show i1 = kn + rgs by omega])
            | fail "q9"
          have q_5 : (fil wk kn (kn + rgs) nw) = wk1 := by
            first
            | (
               rw [hwk1, show i1 = kn + rgs by omega])
            | fail "q9"
          have hw_6 := (congr (congr (congrArg (fun (z0 : Int) (z1 : Int → Int) (z2 : Int → Int) => ([(aG, .inr (4, [.ref aGn, .ref aGw, .ref aGs, .int (iI z0)])), (aGn, .inl (gI g, 200, .inl (ar z1))), (aGw, .inl (gI g, 200, .inl (ar z2)))] : va_W)) q_3.symm) q_4.symm) q_5.symm)
          rw [hQ9]
          exact x_vret hx hb hr hlocks hP hD hS (S := Unit) (Φ := _) (W1 := _) dX1_extend_55 () trivial hw_6 (Nat.le_of_ble_eq_true rfl) (Nat.le_of_ble_eq_true rfl)
        · skip
          refine lv_aload_n hx hb dX1_extend_27 rfl (lv_at hl 2 rfl) ?_
          refine va_get (D := gD g) (ci := 4) (v := .ref aGn) (C := RX1) (T := TX1) (N := 4) hx hb hts hin1 hown hK hP 0 rfl rfl 0 (by decide) (hts (.fieldLink RX1 9 "TunnelRing$Ground" "need" "[I") (List.mem_of_getElem? (i := 6) rfl)) (fun _ h9 => h9) rfl dX1_extend_28 ?_
          refine lv_iload hx hb dX1_extend_31 (lv_at hl 0 rfl) ?_
          refine lv_iload_n hx hb dX1_extend_33 rfl (lv_at hl 4 rfl) ?_
          refine x_iast hx hb hK hP hD hS 1 0 rfl rfl (by omega) (by omega) (Nat.le_of_ble_eq_true rfl) dX1_extend_34 (fun H locs hP hD hS => ?_)
          have hP : va_P (gD g) vwCl [(aG, .inr (4, [.ref aGn, .ref aGw, .ref aGs, .int (iI kn)])), (aGn, .inl (gI g, 200, .inl (ar (up nd1 i1 nn)))), (aGw, .inl (gI g, 200, .inl (ar wk1)))] H := hP
          have hD : va_D A [(aG, .inr (4, [.ref aGn, .ref aGw, .ref aGs, .int (iI kn)])), (aGn, .inl (gI g, 200, .inl (ar (up nd1 i1 nn)))), (aGw, .inl (gI g, 200, .inl (ar wk1)))] := hD
          refine lv_aload_n hx hb dX1_extend_35 rfl (lv_at hl 2 rfl) ?_
          refine va_get (D := gD g) (ci := 4) (v := .ref aGw) (C := RX1) (T := TX1) (N := 4) hx hb hts hin1 hown hK hP 0 rfl rfl 1 (by decide) (hts (.fieldLink RX1 15 "TunnelRing$Ground" "weakness" "[I") (List.mem_of_getElem? (i := 7) rfl)) (fun _ h9 => h9) rfl dX1_extend_36 ?_
          refine lv_iload hx hb dX1_extend_39 (lv_at hl 0 rfl) ?_
          refine lv_iload_n hx hb dX1_extend_41 rfl (lv_at hl 5 rfl) ?_
          refine x_iast hx hb hK hP hD hS 2 0 rfl rfl (by omega) (by omega) (Nat.le_of_ble_eq_true rfl) dX1_extend_42 (fun H locs hP hD hS => ?_)
          have hP : va_P (gD g) vwCl [(aG, .inr (4, [.ref aGn, .ref aGw, .ref aGs, .int (iI kn)])), (aGn, .inl (gI g, 200, .inl (ar (up nd1 i1 nn)))), (aGw, .inl (gI g, 200, .inl (ar (up wk1 i1 nw))))] H := hP
          have hD : va_D A [(aG, .inr (4, [.ref aGn, .ref aGw, .ref aGs, .int (iI kn)])), (aGn, .inl (gI g, 200, .inl (ar (up nd1 i1 nn)))), (aGw, .inl (gI g, 200, .inl (ar (up wk1 i1 nw))))] := hD
          refine x_iinc (k := 0) (lv' := [(5, .int (iI (i1 + 1))), (4, .int (iI v_1)), (0, .ref aG), (1, .int (iI rgs)), (2, .int (iI nn)), (3, .int (iI nw))]) hx hb dX1_extend_43 hl rfl (by decide) rfl (fun ls hl => ?_)
          refine lv_goto (tgt := 20) hx hb dX1_extend_46 (by decide) ?_
          exact ih20 (i1 + 1) (up nd1 i1 nn) (up wk1 i1 nw) (show kn ≤ (i1 + 1) ∧ (i1 + 1) ≤ kn + rgs by
              first
              | (
                 first | assumption | omega | rfl)
              | fail "q9") (show (up nd1 i1 nn) = fil nd kn (i1 + 1) nn by
              first
              | (
                 rw [hnd1]
                 exact fil_step (by omega))
              | fail "q9") (show (up wk1 i1 nw) = fil wk kn (i1 + 1) nw by
              first
              | (
                 rw [hwk1]
                 exact fil_step (by omega))
              | fail "q9") (by
              first
              | (
                 omega)
              | fail "q9") _ _ hP hD hS ls (lv_sub hl [0, 1, 2, 3, 4, 5] rfl)
    exact lp20 (kn + rgs - kn + 1 : Int).toNat kn nd wk (show kn ≤ kn ∧ kn ≤ kn + rgs by
        first
        | (
           first | assumption | omega | rfl)
        | fail "q9") (show nd = fil nd kn kn nn by
        first
        | (
           exact (fil_0 _ _ _).symm)
        | fail "q9") (show wk = fil wk kn kn nw by
        first
        | (
           exact (fil_0 _ _ _).symm)
        | fail "q9") (by omega) _ _ hP hD hS ls (lv_sub hl [0, 1, 2, 3, 4, 5] rfl)
  rw [hH, hlo, hQ9] at goal_
  exact goal_

set_option maxHeartbeats 4000000 in
set_option maxRecDepth 100000 in
theorem c_X3_extend (l : Launch) (g : xg) (sz : Nat) (aP aPx aPy : Nat) (pn rgs nx ny : Int) (bx byy : Int → Int) (hpn : 0 ≤ pn ∧ pn ≤ 200) (hrgs : 1 ≤ rgs ∧ rgs ≤ 50) (hsum : pn + rgs ≤ 200) : Met l yX3_extend wsX3_extend { frames := 1, cells := 0, slots := 0, locals := 22 } (va_Pc [.ref aP, .int (iI rgs), .int (iI nx), .int (iI ny)] (xB g [(aP, .inr (6, [.ref aPx, .ref aPy, .int (iI pn)])), (aPx, .inl (gI g, 200, .inl (ar bx))), (aPy, .inl (gI g, 200, .inl (ar byy)))] sz)) (va_Qv (fun (u : Unit) => True) (fun u t => xE g (va_A [(aP, .inr (6, [.ref aPx, .ref aPy, .int (iI pn)])), (aPx, .inl (gI g, 200, .inl (ar bx))), (aPy, .inl (gI g, 200, .inl (ar byy)))] sz) ((fun (u : Unit) => [(aP, .inr (6, [.ref aPx, .ref aPy, .int (iI (pn + rgs))])), (aPx, .inl (gI g, 200, .inl (ar (fil bx pn (pn + rgs) nx)))), (aPy, .inl (gI g, 200, .inl (ar (fil byy pn (pn + rgs) ny))))]) u) t) (va_A [(aP, .inr (6, [.ref aPx, .ref aPy, .int (iI pn)])), (aPx, .inl (gI g, 200, .inl (ar bx))), (aPy, .inl (gI g, 200, .inl (ar byy)))] sz)) 0 0 (va_A [(aP, .inr (6, [.ref aPx, .ref aPy, .int (iI pn)])), (aPx, .inl (gI g, 200, .inl (ar bx))), (aPy, .inl (gI g, 200, .inl (ar byy)))] sz) := by
  refine x_enter (y := yX3_extend) (ws := wsX3_extend) (g := g) (sz := sz) (av := [.ref aP, .int (iI rgs), .int (iI nx), .int (iI ny)]) (WS := [(aP, .inr (6, [.ref aPx, .ref aPy, .int (iI pn)])), (aPx, .inl (gI g, 200, .inl (ar bx))), (aPy, .inl (gI g, 200, .inl (ar byy)))]) (cc := cX3_extend) (maxL := 6) (ret := none) (Qc := (fun A => (va_Qv (fun (u : Unit) => True) (fun u t => xE g A ((fun (u : Unit) => [(aP, .inr (6, [.ref aPx, .ref aPy, .int (iI (pn + rgs))])), (aPx, .inl (gI g, 200, .inl (ar (fil bx pn (pn + rgs) nx)))), (aPy, .inl (gI g, 200, .inl (ar (fil byy pn (pn + rgs) ny))))]) u) t) A))) (by decide) rfl (Nat.le_of_ble_eq_true rfl) ?_
  intro p e s m args below meth c A ls hx hb hr hml hown hts hlocks hname hC hP hD hS hA hl
  have hK := hC.1
  have hown : s.vm.findClass RX3 = some m.cls := hown
  have hin3 : ∀ w ∈ u_ws RX3 TX3 3, w ∈ wsX3_extend := by decide +kernel
  have hl : lv_has ls 6 [(0, .ref aP), (1, .int (iI rgs)), (2, .int (iI nx)), (3, .int (iI ny))] := hl
  obtain ⟨H, hH⟩ : ∃ z, z = s.heap := ⟨_, rfl⟩
  obtain ⟨locs, hlo⟩ : ∃ z : List Loc, z = [] := ⟨_, rfl⟩
  obtain ⟨Q9, hQ9⟩ : ∃ z, z = MQ below (va_Qv (fun (u : Unit) => True) (fun u t => xE g A ((fun (u : Unit) => [(aP, .inr (6, [.ref aPx, .ref aPy, .int (iI (pn + rgs))])), (aPx, .inl (gI g, 200, .inl (ar (fil bx pn (pn + rgs) nx)))), (aPy, .inl (gI g, 200, .inl (ar (fil byy pn (pn + rgs) ny))))]) u) t) A) args s 0 0 A := ⟨_, rfl⟩
  have hP : va_P (gD g) vwCl [(aP, .inr (6, [.ref aPx, .ref aPy, .int (iI pn)])), (aPx, .inl (gI g, 200, .inl (ar bx))), (aPy, .inl (gI g, 200, .inl (ar byy)))] H := by rw [hH]; exact hP
  have hS : va_S A s.heap H locs := by rw [hH, hlo]; exact hS
  have goal_ : W p l e { frames := 1, cells := 0, slots := 0, locals := 22 } s m args below meth c H locs 0 0 Q9 (F0 m 0 ls []) := by
    clear hH hlo
    refine x_sipush hx hb dX3_extend_0 (by decide) ?_
    refine lv_aload_n hx hb dX3_extend_3 rfl (lv_at hl 0 rfl) ?_
    refine va_get (D := gD g) (ci := 6) (v := .int (iI pn)) (C := RX3) (T := TX3) (N := 3) hx hb hts hin3 hown hK hP 0 rfl rfl 2 (by decide) (hts (.fieldLink RX3 18 "TunnelRing$Plan" "planned" "I") (List.mem_of_getElem? (i := 1) rfl)) (fun _ h9 => h9) rfl dX3_extend_4 ?_
    refine lv_iload_n hx hb dX3_extend_7 rfl (lv_at hl 1 rfl) ?_
    refine x_iadd hx hb dX3_extend_8 ?_
    refine x_min hx hb (hml.trans hl.1.symm) hown (hts (.methodLink RX3 22 Lib.Math.min.name) (List.mem_of_getElem? (i := 2) rfl)) (hts (.static Lib.Math.min.name) (List.mem_of_getElem? (i := 3) rfl)) (hts (.initialized "java/lang/Math") (List.mem_of_getElem? (i := 4) rfl)) (hts (.code Lib.Math.min.name Lib.Math.min.code 2 (some .int)) (List.mem_of_getElem? (i := 5) rfl)) (Nat.le_of_ble_eq_true rfl) (Nat.le_of_ble_eq_true rfl) (Nat.le_of_ble_eq_true rfl) (Nat.le_of_ble_eq_true rfl) (by omega) (by omega) dX3_extend_9 (fun v_1 hv_1 => ?_)
    have bv_1 := mn_r 200 (pn + rgs) hv_1
    refine lv_istore (lv' := [(4, .int (iI v_1)), (0, .ref aP), (1, .int (iI rgs)), (2, .int (iI nx)), (3, .int (iI ny))]) hx hb dX3_extend_12 hl (by decide) rfl (fun ls hl => ?_)
    refine lv_aload_n hx hb dX3_extend_14 rfl (lv_at hl 1 rfl) ?_
    refine va_get (D := gD g) (ci := 6) (v := .int (iI pn)) (C := RX3) (T := TX3) (N := 3) hx hb hts hin3 hown hK hP 0 rfl rfl 2 (by decide) (hts (.fieldLink RX3 18 "TunnelRing$Plan" "planned" "I") (List.mem_of_getElem? (i := 1) rfl)) (fun _ h9 => h9) rfl dX3_extend_15 ?_
    refine lv_istore (lv' := [(5, .int (iI pn)), (4, .int (iI v_1)), (0, .ref aP), (1, .int (iI rgs)), (2, .int (iI nx)), (3, .int (iI ny))]) hx hb dX3_extend_18 hl (by decide) rfl (fun ls hl => ?_)
    have lp20 : ∀ (n : Nat) (i1 : Int) (bx1 : Int → Int) (byy1 : Int → Int), (pn ≤ i1 ∧ i1 ≤ pn + rgs) → (bx1 = fil bx pn i1 nx) → (byy1 = fil byy pn i1 ny) → pn + rgs - i1 + 1 ≤ (n : Int) → ∀ (H : Heap) (locs : List Loc), va_P (gD g) vwCl [(aP, .inr (6, [.ref aPx, .ref aPy, .int (iI pn)])), (aPx, .inl (gI g, 200, .inl (ar bx1))), (aPy, .inl (gI g, 200, .inl (ar byy1)))] H → va_D A [(aP, .inr (6, [.ref aPx, .ref aPy, .int (iI pn)])), (aPx, .inl (gI g, 200, .inl (ar bx1))), (aPy, .inl (gI g, 200, .inl (ar byy1)))] → va_S A s.heap H locs → ∀ (ls : Array Slot), lv_has ls 6 [(5, .int (iI i1)), (4, .int (iI v_1)), (0, .ref aP), (1, .int (iI rgs)), (2, .int (iI nx)), (3, .int (iI ny))] → W p l e { frames := 1, cells := 0, slots := 0, locals := 22 } s m args below meth c H locs (0) (0) Q9 (F0 m 20 ls []) := by
      intro n
      induction n with
      | zero => intro i1 bx1 byy1 hi1 hbx1 hbyy1 hm; exfalso; omega
      | succ n ih20 =>
        intro i1 bx1 byy1 hi1 hbx1 hbyy1 hm H locs hP hD hS ls hl
        refine lv_iload hx hb dX3_extend_20 (lv_at hl 0 rfl) ?_
        refine lv_iload hx hb dX3_extend_22 (lv_at hl 1 rfl) ?_
        refine x_cmp_ge (tgt := 49) hx hb (by omega) (by omega) dX3_extend_24 (by decide) (fun c_2 => ?_) (fun c_2 => ?_)
        · skip
          refine lv_aload_n hx hb dX3_extend_49 rfl (lv_at hl 2 rfl) ?_
          refine lv_iload hx hb dX3_extend_50 (lv_at hl 1 rfl) ?_
          refine va_put (D := gD g) (ci := 6) (v := .int (iI v_1)) (ty := tyX3 2) (C := RX3) (T := TX3) (N := 3) hx hb hts hin3 tyX3 tyX3_ok nmX3 hown hK hP hD hS 0 rfl rfl 2 (by decide) (hts (.fieldLink RX3 18 "TunnelRing$Plan" "planned" "I") (List.mem_of_getElem? (i := 1) rfl)) (fun _ h9 => h9) rfl (tyX3_ok 2 (by decide)) rfl rfl (Nat.le_of_ble_eq_true rfl) dX3_extend_52 (fun H locs hP hD hS => ?_)
          have hP : va_P (gD g) vwCl [(aP, .inr (6, [.ref aPx, .ref aPy, .int (iI v_1)])), (aPx, .inl (gI g, 200, .inl (ar bx1))), (aPy, .inl (gI g, 200, .inl (ar byy1)))] H := hP
          have hD : va_D A [(aP, .inr (6, [.ref aPx, .ref aPy, .int (iI v_1)])), (aPx, .inl (gI g, 200, .inl (ar bx1))), (aPy, .inl (gI g, 200, .inl (ar byy1)))] := hD
          have q_3 : (pn + rgs) = v_1 := by
            first
            | (
               first | rfl | omega | (subst_vars; first | rfl | omega))
            | fail "q9"
          have q_4 : (fil bx pn (pn + rgs) nx) = bx1 := by
            first
            | (
               rw [hbx1, show i1 = pn + rgs by omega])
            | fail "q9"
          have q_5 : (fil byy pn (pn + rgs) ny) = byy1 := by
            first
            | (
               rw [hbyy1, show i1 = pn + rgs by omega])
            | fail "q9"
          have hw_6 := (congr (congr (congrArg (fun (z0 : Int) (z1 : Int → Int) (z2 : Int → Int) => ([(aP, .inr (6, [.ref aPx, .ref aPy, .int (iI z0)])), (aPx, .inl (gI g, 200, .inl (ar z1))), (aPy, .inl (gI g, 200, .inl (ar z2)))] : va_W)) q_3.symm) q_4.symm) q_5.symm)
          rw [hQ9]
          exact x_vret hx hb hr hlocks hP hD hS (S := Unit) (Φ := _) (W1 := _) dX3_extend_55 () trivial hw_6 (Nat.le_of_ble_eq_true rfl) (Nat.le_of_ble_eq_true rfl)
        · skip
          refine lv_aload_n hx hb dX3_extend_27 rfl (lv_at hl 2 rfl) ?_
          refine va_get (D := gD g) (ci := 6) (v := .ref aPx) (C := RX3) (T := TX3) (N := 3) hx hb hts hin3 hown hK hP 0 rfl rfl 0 (by decide) (hts (.fieldLink RX3 9 "TunnelRing$Plan" "bendX" "[I") (List.mem_of_getElem? (i := 6) rfl)) (fun _ h9 => h9) rfl dX3_extend_28 ?_
          refine lv_iload hx hb dX3_extend_31 (lv_at hl 0 rfl) ?_
          refine lv_iload_n hx hb dX3_extend_33 rfl (lv_at hl 4 rfl) ?_
          refine x_iast hx hb hK hP hD hS 1 0 rfl rfl (by omega) (by omega) (Nat.le_of_ble_eq_true rfl) dX3_extend_34 (fun H locs hP hD hS => ?_)
          have hP : va_P (gD g) vwCl [(aP, .inr (6, [.ref aPx, .ref aPy, .int (iI pn)])), (aPx, .inl (gI g, 200, .inl (ar (up bx1 i1 nx)))), (aPy, .inl (gI g, 200, .inl (ar byy1)))] H := hP
          have hD : va_D A [(aP, .inr (6, [.ref aPx, .ref aPy, .int (iI pn)])), (aPx, .inl (gI g, 200, .inl (ar (up bx1 i1 nx)))), (aPy, .inl (gI g, 200, .inl (ar byy1)))] := hD
          refine lv_aload_n hx hb dX3_extend_35 rfl (lv_at hl 2 rfl) ?_
          refine va_get (D := gD g) (ci := 6) (v := .ref aPy) (C := RX3) (T := TX3) (N := 3) hx hb hts hin3 hown hK hP 0 rfl rfl 1 (by decide) (hts (.fieldLink RX3 15 "TunnelRing$Plan" "bendY" "[I") (List.mem_of_getElem? (i := 7) rfl)) (fun _ h9 => h9) rfl dX3_extend_36 ?_
          refine lv_iload hx hb dX3_extend_39 (lv_at hl 0 rfl) ?_
          refine lv_iload_n hx hb dX3_extend_41 rfl (lv_at hl 5 rfl) ?_
          refine x_iast hx hb hK hP hD hS 2 0 rfl rfl (by omega) (by omega) (Nat.le_of_ble_eq_true rfl) dX3_extend_42 (fun H locs hP hD hS => ?_)
          have hP : va_P (gD g) vwCl [(aP, .inr (6, [.ref aPx, .ref aPy, .int (iI pn)])), (aPx, .inl (gI g, 200, .inl (ar (up bx1 i1 nx)))), (aPy, .inl (gI g, 200, .inl (ar (up byy1 i1 ny))))] H := hP
          have hD : va_D A [(aP, .inr (6, [.ref aPx, .ref aPy, .int (iI pn)])), (aPx, .inl (gI g, 200, .inl (ar (up bx1 i1 nx)))), (aPy, .inl (gI g, 200, .inl (ar (up byy1 i1 ny))))] := hD
          refine x_iinc (k := 0) (lv' := [(5, .int (iI (i1 + 1))), (4, .int (iI v_1)), (0, .ref aP), (1, .int (iI rgs)), (2, .int (iI nx)), (3, .int (iI ny))]) hx hb dX3_extend_43 hl rfl (by decide) rfl (fun ls hl => ?_)
          refine lv_goto (tgt := 20) hx hb dX3_extend_46 (by decide) ?_
          exact ih20 (i1 + 1) (up bx1 i1 nx) (up byy1 i1 ny) (show pn ≤ (i1 + 1) ∧ (i1 + 1) ≤ pn + rgs by
              first
              | (
                 first | assumption | omega | rfl)
              | fail "q9") (show (up bx1 i1 nx) = fil bx pn (i1 + 1) nx by
              first
              | (
                 rw [hbx1]
                 exact fil_step (by omega))
              | fail "q9") (show (up byy1 i1 ny) = fil byy pn (i1 + 1) ny by
              first
              | (
                 rw [hbyy1]
                 exact fil_step (by omega))
              | fail "q9") (by
              first
              | (
                 omega)
              | fail "q9") _ _ hP hD hS ls (lv_sub hl [0, 1, 2, 3, 4, 5] rfl)
    exact lp20 (pn + rgs - pn + 1 : Int).toNat pn bx byy (show pn ≤ pn ∧ pn ≤ pn + rgs by
        first
        | (
           first | assumption | omega | rfl)
        | fail "q9") (show bx = fil bx pn pn nx by
        first
        | (
           exact (fil_0 _ _ _).symm)
        | fail "q9") (show byy = fil byy pn pn ny by
        first
        | (
           exact (fil_0 _ _ _).symm)
        | fail "q9") (by omega) _ _ hP hD hS ls (lv_sub hl [0, 1, 2, 3, 4, 5] rfl)
  rw [hH, hlo, hQ9] at goal_
  exact goal_

set_option maxHeartbeats 4000000 in
set_option maxRecDepth 100000 in
theorem c_X3_sideBend (l : Launch) (g : xg) (sz : Nat) (aP aPx aPy : Nat) (pn rg : Int) (bx : Int → Int) (hpn : 0 ≤ pn ∧ pn ≤ 200) (hrg : iR rg) (hb_bx : bnd bx (-5) 5) : Met l yX3_sideBend wsX3_sideBend { frames := 0, cells := 0, slots := 0, locals := 0 } (va_Pc [.ref aP, .int (iI rg)] (xB g [(aP, .inr (6, [.ref aPx, .ref aPy, .int (iI pn)])), (aPx, .inl (gI g, 200, .inl (ar bx)))] sz)) (va_Qi (fun r u => r = iI ((fun (u : Unit) => gt0 pn bx rg) u) ∧ (fun (u : Unit) => -5 ≤ (gt0 pn bx rg) ∧ (gt0 pn bx rg) ≤ 5) u) (fun u t => xE g (va_A [(aP, .inr (6, [.ref aPx, .ref aPy, .int (iI pn)])), (aPx, .inl (gI g, 200, .inl (ar bx)))] sz) ((fun (u : Unit) => [(aP, .inr (6, [.ref aPx, .ref aPy, .int (iI pn)])), (aPx, .inl (gI g, 200, .inl (ar bx)))]) u) t) (va_A [(aP, .inr (6, [.ref aPx, .ref aPy, .int (iI pn)])), (aPx, .inl (gI g, 200, .inl (ar bx)))] sz)) 0 0 (va_A [(aP, .inr (6, [.ref aPx, .ref aPy, .int (iI pn)])), (aPx, .inl (gI g, 200, .inl (ar bx)))] sz) := by
  refine x_enter (y := yX3_sideBend) (ws := wsX3_sideBend) (g := g) (sz := sz) (av := [.ref aP, .int (iI rg)]) (WS := [(aP, .inr (6, [.ref aPx, .ref aPy, .int (iI pn)])), (aPx, .inl (gI g, 200, .inl (ar bx)))]) (cc := cX3_sideBend) (maxL := 2) (ret := some .int) (Qc := (fun A => (va_Qi (fun r u => r = iI ((fun (u : Unit) => gt0 pn bx rg) u) ∧ (fun (u : Unit) => -5 ≤ (gt0 pn bx rg) ∧ (gt0 pn bx rg) ≤ 5) u) (fun u t => xE g A ((fun (u : Unit) => [(aP, .inr (6, [.ref aPx, .ref aPy, .int (iI pn)])), (aPx, .inl (gI g, 200, .inl (ar bx)))]) u) t) A))) (by decide) rfl (Nat.le_of_ble_eq_true rfl) ?_
  intro p e s m args below meth c A ls hx hb hr hml hown hts hlocks hname hC hP hD hS hA hl
  have hK := hC.1
  have hown : s.vm.findClass RX3 = some m.cls := hown
  have hin3 : ∀ w ∈ u_ws RX3 TX3 3, w ∈ wsX3_sideBend := by decide +kernel
  have hl : lv_has ls 2 [(0, .ref aP), (1, .int (iI rg))] := hl
  obtain ⟨H, hH⟩ : ∃ z, z = s.heap := ⟨_, rfl⟩
  obtain ⟨locs, hlo⟩ : ∃ z : List Loc, z = [] := ⟨_, rfl⟩
  obtain ⟨Q9, hQ9⟩ : ∃ z, z = MQ below (va_Qi (fun r u => r = iI ((fun (u : Unit) => gt0 pn bx rg) u) ∧ (fun (u : Unit) => -5 ≤ (gt0 pn bx rg) ∧ (gt0 pn bx rg) ≤ 5) u) (fun u t => xE g A ((fun (u : Unit) => [(aP, .inr (6, [.ref aPx, .ref aPy, .int (iI pn)])), (aPx, .inl (gI g, 200, .inl (ar bx)))]) u) t) A) args s 0 0 A := ⟨_, rfl⟩
  have hP : va_P (gD g) vwCl [(aP, .inr (6, [.ref aPx, .ref aPy, .int (iI pn)])), (aPx, .inl (gI g, 200, .inl (ar bx)))] H := by rw [hH]; exact hP
  have hS : va_S A s.heap H locs := by rw [hH, hlo]; exact hS
  have goal_ : W p l e { frames := 0, cells := 0, slots := 0, locals := 0 } s m args below meth c H locs 0 0 Q9 (F0 m 0 ls []) := by
    clear hH hlo
    refine lv_iload_n hx hb dX3_sideBend_0 rfl (lv_at hl 1 rfl) ?_
    refine x_if_lt (tgt := 21) hx hb (by omega) dX3_sideBend_1 (by decide) (fun c_1 => ?_) (fun c_1 => ?_)
    · skip
      refine x_iconst hx hb dX3_sideBend_21 ?_
      rw [hQ9]
      exact x_iret hx hb hr hlocks hP hD hS (S := Unit) rfl dX3_sideBend_22 () (by
          first
          | (
             unfold gt0
             subst_vars
             first | rw [if_pos (by omega)] | rw [if_neg (by omega)])
          | fail "q9") (by
          first
          | (
             exact gt0_r hb_bx (by omega) (by omega))
          | fail "q9") rfl (Nat.le_of_ble_eq_true rfl) (Nat.le_of_ble_eq_true rfl)
    · skip
      refine lv_iload_n hx hb dX3_sideBend_4 rfl (lv_at hl 1 rfl) ?_
      refine lv_aload_n hx hb dX3_sideBend_5 rfl (lv_at hl 0 rfl) ?_
      refine va_get (D := gD g) (ci := 6) (v := .int (iI pn)) (C := RX3) (T := TX3) (N := 3) hx hb hts hin3 hown hK hP 0 rfl rfl 2 (by decide) (hts (.fieldLink RX3 18 "TunnelRing$Plan" "planned" "I") (List.mem_of_getElem? (i := 1) rfl)) (fun _ h9 => h9) rfl dX3_sideBend_6 ?_
      refine x_cmp_ge (tgt := 21) hx hb (by omega) (by omega) dX3_sideBend_9 (by decide) (fun c_2 => ?_) (fun c_2 => ?_)
      · skip
        refine x_iconst hx hb dX3_sideBend_21 ?_
        rw [hQ9]
        exact x_iret hx hb hr hlocks hP hD hS (S := Unit) rfl dX3_sideBend_22 () (by
            first
            | (
               unfold gt0
               subst_vars
               first | rw [if_pos (by omega)] | rw [if_neg (by omega)])
            | fail "q9") (by
            first
            | (
               exact gt0_r hb_bx (by omega) (by omega))
            | fail "q9") rfl (Nat.le_of_ble_eq_true rfl) (Nat.le_of_ble_eq_true rfl)
      · skip
        refine lv_aload_n hx hb dX3_sideBend_12 rfl (lv_at hl 0 rfl) ?_
        refine va_get (D := gD g) (ci := 6) (v := .ref aPx) (C := RX3) (T := TX3) (N := 3) hx hb hts hin3 hown hK hP 0 rfl rfl 0 (by decide) (hts (.fieldLink RX3 9 "TunnelRing$Plan" "bendX" "[I") (List.mem_of_getElem? (i := 2) rfl)) (fun _ h9 => h9) rfl dX3_sideBend_13 ?_
        refine lv_iload_n hx hb dX3_sideBend_16 rfl (lv_at hl 1 rfl) ?_
        refine x_iald hx hb hK hP 1 0 rfl rfl (by omega) (by omega) (Nat.le_of_ble_eq_true rfl) dX3_sideBend_17 (fun v_3 hv_3 => ?_)
        have bv_3 : (-5) ≤ v_3 ∧ v_3 ≤ 5 := by rw [hv_3]; exact hb_bx _
        refine lv_goto (tgt := 22) hx hb dX3_sideBend_18 (by decide) ?_
        rw [hQ9]
        exact x_iret hx hb hr hlocks hP hD hS (S := Unit) rfl dX3_sideBend_22 () (by
            first
            | (
               unfold gt0
               subst_vars
               first | rw [if_pos (by omega)] | rw [if_neg (by omega)])
            | fail "q9") (by
            first
            | (
               exact gt0_r hb_bx (by omega) (by omega))
            | fail "q9") rfl (Nat.le_of_ble_eq_true rfl) (Nat.le_of_ble_eq_true rfl)
  rw [hH, hlo, hQ9] at goal_
  exact goal_

set_option maxHeartbeats 4000000 in
set_option maxRecDepth 100000 in
theorem c_X3_upBend (l : Launch) (g : xg) (sz : Nat) (aP aPx aPy : Nat) (pn rg : Int) (byy : Int → Int) (hpn : 0 ≤ pn ∧ pn ≤ 200) (hrg : iR rg) (hb_byy : bnd byy (-5) 5) : Met l yX3_upBend wsX3_upBend { frames := 0, cells := 0, slots := 0, locals := 0 } (va_Pc [.ref aP, .int (iI rg)] (xB g [(aP, .inr (6, [.ref aPx, .ref aPy, .int (iI pn)])), (aPy, .inl (gI g, 200, .inl (ar byy)))] sz)) (va_Qi (fun r u => r = iI ((fun (u : Unit) => gt0 pn byy rg) u) ∧ (fun (u : Unit) => -5 ≤ (gt0 pn byy rg) ∧ (gt0 pn byy rg) ≤ 5) u) (fun u t => xE g (va_A [(aP, .inr (6, [.ref aPx, .ref aPy, .int (iI pn)])), (aPy, .inl (gI g, 200, .inl (ar byy)))] sz) ((fun (u : Unit) => [(aP, .inr (6, [.ref aPx, .ref aPy, .int (iI pn)])), (aPy, .inl (gI g, 200, .inl (ar byy)))]) u) t) (va_A [(aP, .inr (6, [.ref aPx, .ref aPy, .int (iI pn)])), (aPy, .inl (gI g, 200, .inl (ar byy)))] sz)) 0 0 (va_A [(aP, .inr (6, [.ref aPx, .ref aPy, .int (iI pn)])), (aPy, .inl (gI g, 200, .inl (ar byy)))] sz) := by
  refine x_enter (y := yX3_upBend) (ws := wsX3_upBend) (g := g) (sz := sz) (av := [.ref aP, .int (iI rg)]) (WS := [(aP, .inr (6, [.ref aPx, .ref aPy, .int (iI pn)])), (aPy, .inl (gI g, 200, .inl (ar byy)))]) (cc := cX3_upBend) (maxL := 2) (ret := some .int) (Qc := (fun A => (va_Qi (fun r u => r = iI ((fun (u : Unit) => gt0 pn byy rg) u) ∧ (fun (u : Unit) => -5 ≤ (gt0 pn byy rg) ∧ (gt0 pn byy rg) ≤ 5) u) (fun u t => xE g A ((fun (u : Unit) => [(aP, .inr (6, [.ref aPx, .ref aPy, .int (iI pn)])), (aPy, .inl (gI g, 200, .inl (ar byy)))]) u) t) A))) (by decide) rfl (Nat.le_of_ble_eq_true rfl) ?_
  intro p e s m args below meth c A ls hx hb hr hml hown hts hlocks hname hC hP hD hS hA hl
  have hK := hC.1
  have hown : s.vm.findClass RX3 = some m.cls := hown
  have hin3 : ∀ w ∈ u_ws RX3 TX3 3, w ∈ wsX3_upBend := by decide +kernel
  have hl : lv_has ls 2 [(0, .ref aP), (1, .int (iI rg))] := hl
  obtain ⟨H, hH⟩ : ∃ z, z = s.heap := ⟨_, rfl⟩
  obtain ⟨locs, hlo⟩ : ∃ z : List Loc, z = [] := ⟨_, rfl⟩
  obtain ⟨Q9, hQ9⟩ : ∃ z, z = MQ below (va_Qi (fun r u => r = iI ((fun (u : Unit) => gt0 pn byy rg) u) ∧ (fun (u : Unit) => -5 ≤ (gt0 pn byy rg) ∧ (gt0 pn byy rg) ≤ 5) u) (fun u t => xE g A ((fun (u : Unit) => [(aP, .inr (6, [.ref aPx, .ref aPy, .int (iI pn)])), (aPy, .inl (gI g, 200, .inl (ar byy)))]) u) t) A) args s 0 0 A := ⟨_, rfl⟩
  have hP : va_P (gD g) vwCl [(aP, .inr (6, [.ref aPx, .ref aPy, .int (iI pn)])), (aPy, .inl (gI g, 200, .inl (ar byy)))] H := by rw [hH]; exact hP
  have hS : va_S A s.heap H locs := by rw [hH, hlo]; exact hS
  have goal_ : W p l e { frames := 0, cells := 0, slots := 0, locals := 0 } s m args below meth c H locs 0 0 Q9 (F0 m 0 ls []) := by
    clear hH hlo
    refine lv_iload_n hx hb dX3_upBend_0 rfl (lv_at hl 1 rfl) ?_
    refine x_if_lt (tgt := 21) hx hb (by omega) dX3_upBend_1 (by decide) (fun c_1 => ?_) (fun c_1 => ?_)
    · skip
      refine x_iconst hx hb dX3_upBend_21 ?_
      rw [hQ9]
      exact x_iret hx hb hr hlocks hP hD hS (S := Unit) rfl dX3_upBend_22 () (by
          first
          | (
             unfold gt0
             subst_vars
             first | rw [if_pos (by omega)] | rw [if_neg (by omega)])
          | fail "q9") (by
          first
          | (
             exact gt0_r hb_byy (by omega) (by omega))
          | fail "q9") rfl (Nat.le_of_ble_eq_true rfl) (Nat.le_of_ble_eq_true rfl)
    · skip
      refine lv_iload_n hx hb dX3_upBend_4 rfl (lv_at hl 1 rfl) ?_
      refine lv_aload_n hx hb dX3_upBend_5 rfl (lv_at hl 0 rfl) ?_
      refine va_get (D := gD g) (ci := 6) (v := .int (iI pn)) (C := RX3) (T := TX3) (N := 3) hx hb hts hin3 hown hK hP 0 rfl rfl 2 (by decide) (hts (.fieldLink RX3 18 "TunnelRing$Plan" "planned" "I") (List.mem_of_getElem? (i := 1) rfl)) (fun _ h9 => h9) rfl dX3_upBend_6 ?_
      refine x_cmp_ge (tgt := 21) hx hb (by omega) (by omega) dX3_upBend_9 (by decide) (fun c_2 => ?_) (fun c_2 => ?_)
      · skip
        refine x_iconst hx hb dX3_upBend_21 ?_
        rw [hQ9]
        exact x_iret hx hb hr hlocks hP hD hS (S := Unit) rfl dX3_upBend_22 () (by
            first
            | (
               unfold gt0
               subst_vars
               first | rw [if_pos (by omega)] | rw [if_neg (by omega)])
            | fail "q9") (by
            first
            | (
               exact gt0_r hb_byy (by omega) (by omega))
            | fail "q9") rfl (Nat.le_of_ble_eq_true rfl) (Nat.le_of_ble_eq_true rfl)
      · skip
        refine lv_aload_n hx hb dX3_upBend_12 rfl (lv_at hl 0 rfl) ?_
        refine va_get (D := gD g) (ci := 6) (v := .ref aPy) (C := RX3) (T := TX3) (N := 3) hx hb hts hin3 hown hK hP 0 rfl rfl 1 (by decide) (hts (.fieldLink RX3 15 "TunnelRing$Plan" "bendY" "[I") (List.mem_of_getElem? (i := 2) rfl)) (fun _ h9 => h9) rfl dX3_upBend_13 ?_
        refine lv_iload_n hx hb dX3_upBend_16 rfl (lv_at hl 1 rfl) ?_
        refine x_iald hx hb hK hP 1 0 rfl rfl (by omega) (by omega) (Nat.le_of_ble_eq_true rfl) dX3_upBend_17 (fun v_3 hv_3 => ?_)
        have bv_3 : (-5) ≤ v_3 ∧ v_3 ≤ 5 := by rw [hv_3]; exact hb_byy _
        refine lv_goto (tgt := 22) hx hb dX3_upBend_18 (by decide) ?_
        rw [hQ9]
        exact x_iret hx hb hr hlocks hP hD hS (S := Unit) rfl dX3_upBend_22 () (by
            first
            | (
               unfold gt0
               subst_vars
               first | rw [if_pos (by omega)] | rw [if_neg (by omega)])
            | fail "q9") (by
            first
            | (
               exact gt0_r hb_byy (by omega) (by omega))
            | fail "q9") rfl (Nat.le_of_ble_eq_true rfl) (Nat.le_of_ble_eq_true rfl)
  rw [hH, hlo, hQ9] at goal_
  exact goal_

set_option maxHeartbeats 4000000 in
set_option maxRecDepth 100000 in
theorem c_X2_build (l : Launch) (g : xg) (sz : Nat) (aH aHf aHl aHm aHr aHp : Nat) (bu fr lr nl nr : Int) (fi la li ra : Int → Int) (hbu : 0 ≤ bu ∧ bu < 8) : Met l yX2_build wsX2_build { frames := 0, cells := 0, slots := 0, locals := 0 } (va_Pc [.ref aH, .int (iI fr), .int (iI lr), .int (iI nl), .int (iI nr)] (xB g [(aH, .inr (5, [.ref aHf, .ref aHl, .ref aHm, .ref aHr, .ref aHp, .int (iI bu)])), (aHf, .inl (gI g, 8, .inl (ar fi))), (aHl, .inl (gI g, 8, .inl (ar la))), (aHm, .inl (gI g, 8, .inl (ar li))), (aHr, .inl (gI g, 8, .inl (ar ra)))] sz)) (va_Qi (fun r u => r = iI ((fun (u : Unit) => bu) u) ∧ (fun (u : Unit) => True) u) (fun u t => xE g (va_A [(aH, .inr (5, [.ref aHf, .ref aHl, .ref aHm, .ref aHr, .ref aHp, .int (iI bu)])), (aHf, .inl (gI g, 8, .inl (ar fi))), (aHl, .inl (gI g, 8, .inl (ar la))), (aHm, .inl (gI g, 8, .inl (ar li))), (aHr, .inl (gI g, 8, .inl (ar ra)))] sz) ((fun (u : Unit) => [(aH, .inr (5, [.ref aHf, .ref aHl, .ref aHm, .ref aHr, .ref aHp, .int (iI (bu + 1))])), (aHf, .inl (gI g, 8, .inl (ar (up fi bu fr)))), (aHl, .inl (gI g, 8, .inl (ar (up la bu lr)))), (aHm, .inl (gI g, 8, .inl (ar (up li bu nl)))), (aHr, .inl (gI g, 8, .inl (ar (up ra bu nr))))]) u) t) (va_A [(aH, .inr (5, [.ref aHf, .ref aHl, .ref aHm, .ref aHr, .ref aHp, .int (iI bu)])), (aHf, .inl (gI g, 8, .inl (ar fi))), (aHl, .inl (gI g, 8, .inl (ar la))), (aHm, .inl (gI g, 8, .inl (ar li))), (aHr, .inl (gI g, 8, .inl (ar ra)))] sz)) 0 0 (va_A [(aH, .inr (5, [.ref aHf, .ref aHl, .ref aHm, .ref aHr, .ref aHp, .int (iI bu)])), (aHf, .inl (gI g, 8, .inl (ar fi))), (aHl, .inl (gI g, 8, .inl (ar la))), (aHm, .inl (gI g, 8, .inl (ar li))), (aHr, .inl (gI g, 8, .inl (ar ra)))] sz) := by
  refine x_enter (y := yX2_build) (ws := wsX2_build) (g := g) (sz := sz) (av := [.ref aH, .int (iI fr), .int (iI lr), .int (iI nl), .int (iI nr)]) (WS := [(aH, .inr (5, [.ref aHf, .ref aHl, .ref aHm, .ref aHr, .ref aHp, .int (iI bu)])), (aHf, .inl (gI g, 8, .inl (ar fi))), (aHl, .inl (gI g, 8, .inl (ar la))), (aHm, .inl (gI g, 8, .inl (ar li))), (aHr, .inl (gI g, 8, .inl (ar ra)))]) (cc := cX2_build) (maxL := 6) (ret := some .int) (Qc := (fun A => (va_Qi (fun r u => r = iI ((fun (u : Unit) => bu) u) ∧ (fun (u : Unit) => True) u) (fun u t => xE g A ((fun (u : Unit) => [(aH, .inr (5, [.ref aHf, .ref aHl, .ref aHm, .ref aHr, .ref aHp, .int (iI (bu + 1))])), (aHf, .inl (gI g, 8, .inl (ar (up fi bu fr)))), (aHl, .inl (gI g, 8, .inl (ar (up la bu lr)))), (aHm, .inl (gI g, 8, .inl (ar (up li bu nl)))), (aHr, .inl (gI g, 8, .inl (ar (up ra bu nr))))]) u) t) A))) (by decide) rfl (Nat.le_of_ble_eq_true rfl) ?_
  intro p e s m args below meth c A ls hx hb hr hml hown hts hlocks hname hC hP hD hS hA hl
  have hK := hC.1
  have hown : s.vm.findClass RX2 = some m.cls := hown
  have hin2 : ∀ w ∈ u_ws RX2 TX2 6, w ∈ wsX2_build := by decide +kernel
  have hl : lv_has ls 6 [(0, .ref aH), (1, .int (iI fr)), (2, .int (iI lr)), (3, .int (iI nl)), (4, .int (iI nr))] := hl
  obtain ⟨H, hH⟩ : ∃ z, z = s.heap := ⟨_, rfl⟩
  obtain ⟨locs, hlo⟩ : ∃ z : List Loc, z = [] := ⟨_, rfl⟩
  obtain ⟨Q9, hQ9⟩ : ∃ z, z = MQ below (va_Qi (fun r u => r = iI ((fun (u : Unit) => bu) u) ∧ (fun (u : Unit) => True) u) (fun u t => xE g A ((fun (u : Unit) => [(aH, .inr (5, [.ref aHf, .ref aHl, .ref aHm, .ref aHr, .ref aHp, .int (iI (bu + 1))])), (aHf, .inl (gI g, 8, .inl (ar (up fi bu fr)))), (aHl, .inl (gI g, 8, .inl (ar (up la bu lr)))), (aHm, .inl (gI g, 8, .inl (ar (up li bu nl)))), (aHr, .inl (gI g, 8, .inl (ar (up ra bu nr))))]) u) t) A) args s 0 0 A := ⟨_, rfl⟩
  have hP : va_P (gD g) vwCl [(aH, .inr (5, [.ref aHf, .ref aHl, .ref aHm, .ref aHr, .ref aHp, .int (iI bu)])), (aHf, .inl (gI g, 8, .inl (ar fi))), (aHl, .inl (gI g, 8, .inl (ar la))), (aHm, .inl (gI g, 8, .inl (ar li))), (aHr, .inl (gI g, 8, .inl (ar ra)))] H := by rw [hH]; exact hP
  have hS : va_S A s.heap H locs := by rw [hH, hlo]; exact hS
  have goal_ : W p l e { frames := 0, cells := 0, slots := 0, locals := 0 } s m args below meth c H locs 0 0 Q9 (F0 m 0 ls []) := by
    clear hH hlo
    refine lv_aload_n hx hb dX2_build_0 rfl (lv_at hl 0 rfl) ?_
    refine va_get (D := gD g) (ci := 5) (v := .int (iI bu)) (C := RX2) (T := TX2) (N := 6) hx hb hts hin2 hown hK hP 0 rfl rfl 5 (by decide) (hts (.fieldLink RX2 27 "TunnelRing$Houses" "built" "I") (List.mem_of_getElem? (i := 1) rfl)) (fun _ h9 => h9) rfl dX2_build_1 ?_
    refine lv_istore (lv' := [(5, .int (iI bu)), (0, .ref aH), (1, .int (iI fr)), (2, .int (iI lr)), (3, .int (iI nl)), (4, .int (iI nr))]) hx hb dX2_build_4 hl (by decide) rfl (fun ls hl => ?_)
    refine lv_aload_n hx hb dX2_build_6 rfl (lv_at hl 1 rfl) ?_
    refine va_get (D := gD g) (ci := 5) (v := .ref aHf) (C := RX2) (T := TX2) (N := 6) hx hb hts hin2 hown hK hP 0 rfl rfl 0 (by decide) (hts (.fieldLink RX2 9 "TunnelRing$Houses" "first" "[I") (List.mem_of_getElem? (i := 2) rfl)) (fun _ h9 => h9) rfl dX2_build_7 ?_
    refine lv_iload hx hb dX2_build_10 (lv_at hl 0 rfl) ?_
    refine lv_iload_n hx hb dX2_build_12 rfl (lv_at hl 2 rfl) ?_
    refine x_iast hx hb hK hP hD hS 1 0 rfl rfl (by omega) (by omega) (Nat.le_of_ble_eq_true rfl) dX2_build_13 (fun H locs hP hD hS => ?_)
    have hP : va_P (gD g) vwCl [(aH, .inr (5, [.ref aHf, .ref aHl, .ref aHm, .ref aHr, .ref aHp, .int (iI bu)])), (aHf, .inl (gI g, 8, .inl (ar (up fi bu fr)))), (aHl, .inl (gI g, 8, .inl (ar la))), (aHm, .inl (gI g, 8, .inl (ar li))), (aHr, .inl (gI g, 8, .inl (ar ra)))] H := hP
    have hD : va_D A [(aH, .inr (5, [.ref aHf, .ref aHl, .ref aHm, .ref aHr, .ref aHp, .int (iI bu)])), (aHf, .inl (gI g, 8, .inl (ar (up fi bu fr)))), (aHl, .inl (gI g, 8, .inl (ar la))), (aHm, .inl (gI g, 8, .inl (ar li))), (aHr, .inl (gI g, 8, .inl (ar ra)))] := hD
    refine lv_aload_n hx hb dX2_build_14 rfl (lv_at hl 1 rfl) ?_
    refine va_get (D := gD g) (ci := 5) (v := .ref aHl) (C := RX2) (T := TX2) (N := 6) hx hb hts hin2 hown hK hP 0 rfl rfl 1 (by decide) (hts (.fieldLink RX2 15 "TunnelRing$Houses" "last" "[I") (List.mem_of_getElem? (i := 3) rfl)) (fun _ h9 => h9) rfl dX2_build_15 ?_
    refine lv_iload hx hb dX2_build_18 (lv_at hl 0 rfl) ?_
    refine lv_iload_n hx hb dX2_build_20 rfl (lv_at hl 3 rfl) ?_
    refine x_iast hx hb hK hP hD hS 2 0 rfl rfl (by omega) (by omega) (Nat.le_of_ble_eq_true rfl) dX2_build_21 (fun H locs hP hD hS => ?_)
    have hP : va_P (gD g) vwCl [(aH, .inr (5, [.ref aHf, .ref aHl, .ref aHm, .ref aHr, .ref aHp, .int (iI bu)])), (aHf, .inl (gI g, 8, .inl (ar (up fi bu fr)))), (aHl, .inl (gI g, 8, .inl (ar (up la bu lr)))), (aHm, .inl (gI g, 8, .inl (ar li))), (aHr, .inl (gI g, 8, .inl (ar ra)))] H := hP
    have hD : va_D A [(aH, .inr (5, [.ref aHf, .ref aHl, .ref aHm, .ref aHr, .ref aHp, .int (iI bu)])), (aHf, .inl (gI g, 8, .inl (ar (up fi bu fr)))), (aHl, .inl (gI g, 8, .inl (ar (up la bu lr)))), (aHm, .inl (gI g, 8, .inl (ar li))), (aHr, .inl (gI g, 8, .inl (ar ra)))] := hD
    refine lv_aload_n hx hb dX2_build_22 rfl (lv_at hl 1 rfl) ?_
    refine va_get (D := gD g) (ci := 5) (v := .ref aHm) (C := RX2) (T := TX2) (N := 6) hx hb hts hin2 hown hK hP 0 rfl rfl 2 (by decide) (hts (.fieldLink RX2 18 "TunnelRing$Houses" "limit" "[I") (List.mem_of_getElem? (i := 4) rfl)) (fun _ h9 => h9) rfl dX2_build_23 ?_
    refine lv_iload hx hb dX2_build_26 (lv_at hl 0 rfl) ?_
    refine lv_iload_n hx hb dX2_build_28 rfl (lv_at hl 4 rfl) ?_
    refine x_iast hx hb hK hP hD hS 3 0 rfl rfl (by omega) (by omega) (Nat.le_of_ble_eq_true rfl) dX2_build_29 (fun H locs hP hD hS => ?_)
    have hP : va_P (gD g) vwCl [(aH, .inr (5, [.ref aHf, .ref aHl, .ref aHm, .ref aHr, .ref aHp, .int (iI bu)])), (aHf, .inl (gI g, 8, .inl (ar (up fi bu fr)))), (aHl, .inl (gI g, 8, .inl (ar (up la bu lr)))), (aHm, .inl (gI g, 8, .inl (ar (up li bu nl)))), (aHr, .inl (gI g, 8, .inl (ar ra)))] H := hP
    have hD : va_D A [(aH, .inr (5, [.ref aHf, .ref aHl, .ref aHm, .ref aHr, .ref aHp, .int (iI bu)])), (aHf, .inl (gI g, 8, .inl (ar (up fi bu fr)))), (aHl, .inl (gI g, 8, .inl (ar (up la bu lr)))), (aHm, .inl (gI g, 8, .inl (ar (up li bu nl)))), (aHr, .inl (gI g, 8, .inl (ar ra)))] := hD
    refine lv_aload_n hx hb dX2_build_30 rfl (lv_at hl 1 rfl) ?_
    refine va_get (D := gD g) (ci := 5) (v := .ref aHr) (C := RX2) (T := TX2) (N := 6) hx hb hts hin2 hown hK hP 0 rfl rfl 3 (by decide) (hts (.fieldLink RX2 21 "TunnelRing$Houses" "rate" "[I") (List.mem_of_getElem? (i := 5) rfl)) (fun _ h9 => h9) rfl dX2_build_31 ?_
    refine lv_iload hx hb dX2_build_34 (lv_at hl 0 rfl) ?_
    refine lv_iload hx hb dX2_build_36 (lv_at hl 5 rfl) ?_
    refine x_iast hx hb hK hP hD hS 4 0 rfl rfl (by omega) (by omega) (Nat.le_of_ble_eq_true rfl) dX2_build_38 (fun H locs hP hD hS => ?_)
    have hP : va_P (gD g) vwCl [(aH, .inr (5, [.ref aHf, .ref aHl, .ref aHm, .ref aHr, .ref aHp, .int (iI bu)])), (aHf, .inl (gI g, 8, .inl (ar (up fi bu fr)))), (aHl, .inl (gI g, 8, .inl (ar (up la bu lr)))), (aHm, .inl (gI g, 8, .inl (ar (up li bu nl)))), (aHr, .inl (gI g, 8, .inl (ar (up ra bu nr))))] H := hP
    have hD : va_D A [(aH, .inr (5, [.ref aHf, .ref aHl, .ref aHm, .ref aHr, .ref aHp, .int (iI bu)])), (aHf, .inl (gI g, 8, .inl (ar (up fi bu fr)))), (aHl, .inl (gI g, 8, .inl (ar (up la bu lr)))), (aHm, .inl (gI g, 8, .inl (ar (up li bu nl)))), (aHr, .inl (gI g, 8, .inl (ar (up ra bu nr))))] := hD
    refine lv_aload_n hx hb dX2_build_39 rfl (lv_at hl 1 rfl) ?_
    refine lv_iload hx hb dX2_build_40 (lv_at hl 0 rfl) ?_
    refine x_iconst hx hb dX2_build_42 ?_
    refine x_iadd hx hb dX2_build_43 ?_
    obtain ⟨v_1, ev_1⟩ : ∃ z : Int, z = bu + 1 := ⟨_, rfl⟩
    refine x_top ev_1.symm ?_
    refine va_put (D := gD g) (ci := 5) (v := .int (iI v_1)) (ty := tyX2 5) (C := RX2) (T := TX2) (N := 6) hx hb hts hin2 tyX2 tyX2_ok nmX2 hown hK hP hD hS 0 rfl rfl 5 (by decide) (hts (.fieldLink RX2 27 "TunnelRing$Houses" "built" "I") (List.mem_of_getElem? (i := 1) rfl)) (fun _ h9 => h9) rfl (tyX2_ok 5 (by decide)) rfl rfl (Nat.le_of_ble_eq_true rfl) dX2_build_44 (fun H locs hP hD hS => ?_)
    have hP : va_P (gD g) vwCl [(aH, .inr (5, [.ref aHf, .ref aHl, .ref aHm, .ref aHr, .ref aHp, .int (iI v_1)])), (aHf, .inl (gI g, 8, .inl (ar (up fi bu fr)))), (aHl, .inl (gI g, 8, .inl (ar (up la bu lr)))), (aHm, .inl (gI g, 8, .inl (ar (up li bu nl)))), (aHr, .inl (gI g, 8, .inl (ar (up ra bu nr))))] H := hP
    have hD : va_D A [(aH, .inr (5, [.ref aHf, .ref aHl, .ref aHm, .ref aHr, .ref aHp, .int (iI v_1)])), (aHf, .inl (gI g, 8, .inl (ar (up fi bu fr)))), (aHl, .inl (gI g, 8, .inl (ar (up la bu lr)))), (aHm, .inl (gI g, 8, .inl (ar (up li bu nl)))), (aHr, .inl (gI g, 8, .inl (ar (up ra bu nr))))] := hD
    refine lv_iload hx hb dX2_build_47 (lv_at hl 0 rfl) ?_
    have q_2 : (bu + 1) = v_1 := by
      first
      | (
         first | rfl | omega | (subst_vars; first | rfl | omega))
      | fail "q9"
    have hw_3 := (congrArg (fun (z0 : Int) => ([(aH, .inr (5, [.ref aHf, .ref aHl, .ref aHm, .ref aHr, .ref aHp, .int (iI z0)])), (aHf, .inl (gI g, 8, .inl (ar (up fi bu fr)))), (aHl, .inl (gI g, 8, .inl (ar (up la bu lr)))), (aHm, .inl (gI g, 8, .inl (ar (up li bu nl)))), (aHr, .inl (gI g, 8, .inl (ar (up ra bu nr))))] : va_W)) q_2.symm)
    rw [hQ9]
    exact x_iret hx hb hr hlocks hP hD hS (S := Unit) rfl dX2_build_49 () rfl trivial hw_3 (Nat.le_of_ble_eq_true rfl) (Nat.le_of_ble_eq_true rfl)
  rw [hH, hlo, hQ9] at goal_
  exact goal_

set_option maxHeartbeats 4000000 in
set_option maxRecDepth 100000 in
theorem c_X4_restart (l : Launch) (g : xg) (sz : Nat) (aS aQ aSt aSx aSy aL aK : Nat) (sr sl qx qy qhx qhy lx ly lhx lhy px py phx phy : Int) : Met l yX4_restart wsX4_restart { frames := 0, cells := 0, slots := 0, locals := 0 } (va_Pc [.ref aS, .ref aL, .ref aK] (xB g [(aS, .inr (7, [.ref aQ, .ref aSt, .ref aSx, .ref aSy, .int (iI sr), .int (iI sl)])), (aQ, .inr (3, [.int (iI qx), .int (iI qy), .int (iI qhx), .int (iI qhy)])), (aL, .inr (3, [.int (iI lx), .int (iI ly), .int (iI lhx), .int (iI lhy)])), (aK, .inr (3, [.int (iI px), .int (iI py), .int (iI phx), .int (iI phy)]))] sz)) (va_Qv (fun (u : Unit) => True) (fun u t => xE g (va_A [(aS, .inr (7, [.ref aQ, .ref aSt, .ref aSx, .ref aSy, .int (iI sr), .int (iI sl)])), (aQ, .inr (3, [.int (iI qx), .int (iI qy), .int (iI qhx), .int (iI qhy)])), (aL, .inr (3, [.int (iI lx), .int (iI ly), .int (iI lhx), .int (iI lhy)])), (aK, .inr (3, [.int (iI px), .int (iI py), .int (iI phx), .int (iI phy)]))] sz) ((fun (u : Unit) => [(aS, .inr (7, [.ref aQ, .ref aSt, .ref aSx, .ref aSy, .int (iI 0), .int (iI 2147483647)])), (aQ, .inr (3, [.int (iI (lx - px)), .int (iI (ly - py)), .int (iI (lhx - phx)), .int (iI (lhy - phy))])), (aL, .inr (3, [.int (iI lx), .int (iI ly), .int (iI lhx), .int (iI lhy)])), (aK, .inr (3, [.int (iI px), .int (iI py), .int (iI phx), .int (iI phy)]))]) u) t) (va_A [(aS, .inr (7, [.ref aQ, .ref aSt, .ref aSx, .ref aSy, .int (iI sr), .int (iI sl)])), (aQ, .inr (3, [.int (iI qx), .int (iI qy), .int (iI qhx), .int (iI qhy)])), (aL, .inr (3, [.int (iI lx), .int (iI ly), .int (iI lhx), .int (iI lhy)])), (aK, .inr (3, [.int (iI px), .int (iI py), .int (iI phx), .int (iI phy)]))] sz)) 0 0 (va_A [(aS, .inr (7, [.ref aQ, .ref aSt, .ref aSx, .ref aSy, .int (iI sr), .int (iI sl)])), (aQ, .inr (3, [.int (iI qx), .int (iI qy), .int (iI qhx), .int (iI qhy)])), (aL, .inr (3, [.int (iI lx), .int (iI ly), .int (iI lhx), .int (iI lhy)])), (aK, .inr (3, [.int (iI px), .int (iI py), .int (iI phx), .int (iI phy)]))] sz) := by
  refine x_enter (y := yX4_restart) (ws := wsX4_restart) (g := g) (sz := sz) (av := [.ref aS, .ref aL, .ref aK]) (WS := [(aS, .inr (7, [.ref aQ, .ref aSt, .ref aSx, .ref aSy, .int (iI sr), .int (iI sl)])), (aQ, .inr (3, [.int (iI qx), .int (iI qy), .int (iI qhx), .int (iI qhy)])), (aL, .inr (3, [.int (iI lx), .int (iI ly), .int (iI lhx), .int (iI lhy)])), (aK, .inr (3, [.int (iI px), .int (iI py), .int (iI phx), .int (iI phy)]))]) (cc := cX4_restart) (maxL := 3) (ret := none) (Qc := (fun A => (va_Qv (fun (u : Unit) => True) (fun u t => xE g A ((fun (u : Unit) => [(aS, .inr (7, [.ref aQ, .ref aSt, .ref aSx, .ref aSy, .int (iI 0), .int (iI 2147483647)])), (aQ, .inr (3, [.int (iI (lx - px)), .int (iI (ly - py)), .int (iI (lhx - phx)), .int (iI (lhy - phy))])), (aL, .inr (3, [.int (iI lx), .int (iI ly), .int (iI lhx), .int (iI lhy)])), (aK, .inr (3, [.int (iI px), .int (iI py), .int (iI phx), .int (iI phy)]))]) u) t) A))) (by decide) rfl (Nat.le_of_ble_eq_true rfl) ?_
  intro p e s m args below meth c A ls hx hb hr hml hown hts hlocks hname hC hP hD hS hA hl
  have hK := hC.1
  have hown : s.vm.findClass RX4 = some m.cls := hown
  have hin0 : ∀ w ∈ u_ws RX0 TX0 4, w ∈ wsX4_restart := by decide +kernel
  have hin4 : ∀ w ∈ u_ws RX4 TX4 6, w ∈ wsX4_restart := by decide +kernel
  have hl : lv_has ls 3 [(0, .ref aS), (1, .ref aL), (2, .ref aK)] := hl
  obtain ⟨H, hH⟩ : ∃ z, z = s.heap := ⟨_, rfl⟩
  obtain ⟨locs, hlo⟩ : ∃ z : List Loc, z = [] := ⟨_, rfl⟩
  obtain ⟨Q9, hQ9⟩ : ∃ z, z = MQ below (va_Qv (fun (u : Unit) => True) (fun u t => xE g A ((fun (u : Unit) => [(aS, .inr (7, [.ref aQ, .ref aSt, .ref aSx, .ref aSy, .int (iI 0), .int (iI 2147483647)])), (aQ, .inr (3, [.int (iI (lx - px)), .int (iI (ly - py)), .int (iI (lhx - phx)), .int (iI (lhy - phy))])), (aL, .inr (3, [.int (iI lx), .int (iI ly), .int (iI lhx), .int (iI lhy)])), (aK, .inr (3, [.int (iI px), .int (iI py), .int (iI phx), .int (iI phy)]))]) u) t) A) args s 0 0 A := ⟨_, rfl⟩
  have hP : va_P (gD g) vwCl [(aS, .inr (7, [.ref aQ, .ref aSt, .ref aSx, .ref aSy, .int (iI sr), .int (iI sl)])), (aQ, .inr (3, [.int (iI qx), .int (iI qy), .int (iI qhx), .int (iI qhy)])), (aL, .inr (3, [.int (iI lx), .int (iI ly), .int (iI lhx), .int (iI lhy)])), (aK, .inr (3, [.int (iI px), .int (iI py), .int (iI phx), .int (iI phy)]))] H := by rw [hH]; exact hP
  have hS : va_S A s.heap H locs := by rw [hH, hlo]; exact hS
  have goal_ : W p l e { frames := 0, cells := 0, slots := 0, locals := 0 } s m args below meth c H locs 0 0 Q9 (F0 m 0 ls []) := by
    clear hH hlo
    refine lv_aload_n hx hb dX4_restart_0 rfl (lv_at hl 0 rfl) ?_
    refine va_get (D := gD g) (ci := 7) (v := .ref aQ) (C := RX4) (T := TX4) (N := 6) hx hb hts hin4 hown hK hP 0 rfl rfl 0 (by decide) (hts (.fieldLink RX4 12 "TunnelRing$Search" "gap" "LTunnelRing$Course;") (List.mem_of_getElem? (i := 1) rfl)) (fun _ h9 => h9) rfl dX4_restart_1 ?_
    refine lv_aload_n hx hb dX4_restart_4 rfl (lv_at hl 1 rfl) ?_
    refine va_get (D := gD g) (ci := 3) (v := .int (iI lx)) (C := RX0) (T := TX0) (N := 4) hx hb hts hin0 hown hK hP 2 rfl rfl 0 (by decide) (hts (.fieldLink RX4 28 "TunnelRing$Course" "x" "I") (List.mem_of_getElem? (i := 2) rfl)) (fun _ h9 => h9) rfl dX4_restart_5 ?_
    refine lv_aload_n hx hb dX4_restart_8 rfl (lv_at hl 2 rfl) ?_
    refine va_get (D := gD g) (ci := 3) (v := .int (iI px)) (C := RX0) (T := TX0) (N := 4) hx hb hts hin0 hown hK hP 3 rfl rfl 0 (by decide) (hts (.fieldLink RX4 28 "TunnelRing$Course" "x" "I") (List.mem_of_getElem? (i := 2) rfl)) (fun _ h9 => h9) rfl dX4_restart_9 ?_
    refine x_isub hx hb dX4_restart_12 ?_
    obtain ⟨v_1, ev_1⟩ : ∃ z : Int, z = lx - px := ⟨_, rfl⟩
    refine x_top ev_1.symm ?_
    refine va_put (D := gD g) (ci := 3) (v := .int (iI v_1)) (ty := tyX0 0) (C := RX0) (T := TX0) (N := 4) hx hb hts hin0 tyX0 tyX0_ok nmX0 hown hK hP hD hS 1 rfl rfl 0 (by decide) (hts (.fieldLink RX4 28 "TunnelRing$Course" "x" "I") (List.mem_of_getElem? (i := 2) rfl)) (fun _ h9 => h9) rfl (tyX0_ok 0 (by decide)) rfl rfl (Nat.le_of_ble_eq_true rfl) dX4_restart_13 (fun H locs hP hD hS => ?_)
    have hP : va_P (gD g) vwCl [(aS, .inr (7, [.ref aQ, .ref aSt, .ref aSx, .ref aSy, .int (iI sr), .int (iI sl)])), (aQ, .inr (3, [.int (iI v_1), .int (iI qy), .int (iI qhx), .int (iI qhy)])), (aL, .inr (3, [.int (iI lx), .int (iI ly), .int (iI lhx), .int (iI lhy)])), (aK, .inr (3, [.int (iI px), .int (iI py), .int (iI phx), .int (iI phy)]))] H := hP
    have hD : va_D A [(aS, .inr (7, [.ref aQ, .ref aSt, .ref aSx, .ref aSy, .int (iI sr), .int (iI sl)])), (aQ, .inr (3, [.int (iI v_1), .int (iI qy), .int (iI qhx), .int (iI qhy)])), (aL, .inr (3, [.int (iI lx), .int (iI ly), .int (iI lhx), .int (iI lhy)])), (aK, .inr (3, [.int (iI px), .int (iI py), .int (iI phx), .int (iI phy)]))] := hD
    refine lv_aload_n hx hb dX4_restart_16 rfl (lv_at hl 0 rfl) ?_
    refine va_get (D := gD g) (ci := 7) (v := .ref aQ) (C := RX4) (T := TX4) (N := 6) hx hb hts hin4 hown hK hP 0 rfl rfl 0 (by decide) (hts (.fieldLink RX4 12 "TunnelRing$Search" "gap" "LTunnelRing$Course;") (List.mem_of_getElem? (i := 1) rfl)) (fun _ h9 => h9) rfl dX4_restart_17 ?_
    refine lv_aload_n hx hb dX4_restart_20 rfl (lv_at hl 1 rfl) ?_
    refine va_get (D := gD g) (ci := 3) (v := .int (iI ly)) (C := RX0) (T := TX0) (N := 4) hx hb hts hin0 hown hK hP 2 rfl rfl 1 (by decide) (hts (.fieldLink RX4 32 "TunnelRing$Course" "y" "I") (List.mem_of_getElem? (i := 3) rfl)) (fun _ h9 => h9) rfl dX4_restart_21 ?_
    refine lv_aload_n hx hb dX4_restart_24 rfl (lv_at hl 2 rfl) ?_
    refine va_get (D := gD g) (ci := 3) (v := .int (iI py)) (C := RX0) (T := TX0) (N := 4) hx hb hts hin0 hown hK hP 3 rfl rfl 1 (by decide) (hts (.fieldLink RX4 32 "TunnelRing$Course" "y" "I") (List.mem_of_getElem? (i := 3) rfl)) (fun _ h9 => h9) rfl dX4_restart_25 ?_
    refine x_isub hx hb dX4_restart_28 ?_
    obtain ⟨v_2, ev_2⟩ : ∃ z : Int, z = ly - py := ⟨_, rfl⟩
    refine x_top ev_2.symm ?_
    refine va_put (D := gD g) (ci := 3) (v := .int (iI v_2)) (ty := tyX0 1) (C := RX0) (T := TX0) (N := 4) hx hb hts hin0 tyX0 tyX0_ok nmX0 hown hK hP hD hS 1 rfl rfl 1 (by decide) (hts (.fieldLink RX4 32 "TunnelRing$Course" "y" "I") (List.mem_of_getElem? (i := 3) rfl)) (fun _ h9 => h9) rfl (tyX0_ok 1 (by decide)) rfl rfl (Nat.le_of_ble_eq_true rfl) dX4_restart_29 (fun H locs hP hD hS => ?_)
    have hP : va_P (gD g) vwCl [(aS, .inr (7, [.ref aQ, .ref aSt, .ref aSx, .ref aSy, .int (iI sr), .int (iI sl)])), (aQ, .inr (3, [.int (iI v_1), .int (iI v_2), .int (iI qhx), .int (iI qhy)])), (aL, .inr (3, [.int (iI lx), .int (iI ly), .int (iI lhx), .int (iI lhy)])), (aK, .inr (3, [.int (iI px), .int (iI py), .int (iI phx), .int (iI phy)]))] H := hP
    have hD : va_D A [(aS, .inr (7, [.ref aQ, .ref aSt, .ref aSx, .ref aSy, .int (iI sr), .int (iI sl)])), (aQ, .inr (3, [.int (iI v_1), .int (iI v_2), .int (iI qhx), .int (iI qhy)])), (aL, .inr (3, [.int (iI lx), .int (iI ly), .int (iI lhx), .int (iI lhy)])), (aK, .inr (3, [.int (iI px), .int (iI py), .int (iI phx), .int (iI phy)]))] := hD
    refine lv_aload_n hx hb dX4_restart_32 rfl (lv_at hl 0 rfl) ?_
    refine va_get (D := gD g) (ci := 7) (v := .ref aQ) (C := RX4) (T := TX4) (N := 6) hx hb hts hin4 hown hK hP 0 rfl rfl 0 (by decide) (hts (.fieldLink RX4 12 "TunnelRing$Search" "gap" "LTunnelRing$Course;") (List.mem_of_getElem? (i := 1) rfl)) (fun _ h9 => h9) rfl dX4_restart_33 ?_
    refine lv_aload_n hx hb dX4_restart_36 rfl (lv_at hl 1 rfl) ?_
    refine va_get (D := gD g) (ci := 3) (v := .int (iI lhx)) (C := RX0) (T := TX0) (N := 4) hx hb hts hin0 hown hK hP 2 rfl rfl 2 (by decide) (hts (.fieldLink RX4 35 "TunnelRing$Course" "headingX" "I") (List.mem_of_getElem? (i := 4) rfl)) (fun _ h9 => h9) rfl dX4_restart_37 ?_
    refine lv_aload_n hx hb dX4_restart_40 rfl (lv_at hl 2 rfl) ?_
    refine va_get (D := gD g) (ci := 3) (v := .int (iI phx)) (C := RX0) (T := TX0) (N := 4) hx hb hts hin0 hown hK hP 3 rfl rfl 2 (by decide) (hts (.fieldLink RX4 35 "TunnelRing$Course" "headingX" "I") (List.mem_of_getElem? (i := 4) rfl)) (fun _ h9 => h9) rfl dX4_restart_41 ?_
    refine x_isub hx hb dX4_restart_44 ?_
    obtain ⟨v_3, ev_3⟩ : ∃ z : Int, z = lhx - phx := ⟨_, rfl⟩
    refine x_top ev_3.symm ?_
    refine va_put (D := gD g) (ci := 3) (v := .int (iI v_3)) (ty := tyX0 2) (C := RX0) (T := TX0) (N := 4) hx hb hts hin0 tyX0 tyX0_ok nmX0 hown hK hP hD hS 1 rfl rfl 2 (by decide) (hts (.fieldLink RX4 35 "TunnelRing$Course" "headingX" "I") (List.mem_of_getElem? (i := 4) rfl)) (fun _ h9 => h9) rfl (tyX0_ok 2 (by decide)) rfl rfl (Nat.le_of_ble_eq_true rfl) dX4_restart_45 (fun H locs hP hD hS => ?_)
    have hP : va_P (gD g) vwCl [(aS, .inr (7, [.ref aQ, .ref aSt, .ref aSx, .ref aSy, .int (iI sr), .int (iI sl)])), (aQ, .inr (3, [.int (iI v_1), .int (iI v_2), .int (iI v_3), .int (iI qhy)])), (aL, .inr (3, [.int (iI lx), .int (iI ly), .int (iI lhx), .int (iI lhy)])), (aK, .inr (3, [.int (iI px), .int (iI py), .int (iI phx), .int (iI phy)]))] H := hP
    have hD : va_D A [(aS, .inr (7, [.ref aQ, .ref aSt, .ref aSx, .ref aSy, .int (iI sr), .int (iI sl)])), (aQ, .inr (3, [.int (iI v_1), .int (iI v_2), .int (iI v_3), .int (iI qhy)])), (aL, .inr (3, [.int (iI lx), .int (iI ly), .int (iI lhx), .int (iI lhy)])), (aK, .inr (3, [.int (iI px), .int (iI py), .int (iI phx), .int (iI phy)]))] := hD
    refine lv_aload_n hx hb dX4_restart_48 rfl (lv_at hl 0 rfl) ?_
    refine va_get (D := gD g) (ci := 7) (v := .ref aQ) (C := RX4) (T := TX4) (N := 6) hx hb hts hin4 hown hK hP 0 rfl rfl 0 (by decide) (hts (.fieldLink RX4 12 "TunnelRing$Search" "gap" "LTunnelRing$Course;") (List.mem_of_getElem? (i := 1) rfl)) (fun _ h9 => h9) rfl dX4_restart_49 ?_
    refine lv_aload_n hx hb dX4_restart_52 rfl (lv_at hl 1 rfl) ?_
    refine va_get (D := gD g) (ci := 3) (v := .int (iI lhy)) (C := RX0) (T := TX0) (N := 4) hx hb hts hin0 hown hK hP 2 rfl rfl 3 (by decide) (hts (.fieldLink RX4 38 "TunnelRing$Course" "headingY" "I") (List.mem_of_getElem? (i := 5) rfl)) (fun _ h9 => h9) rfl dX4_restart_53 ?_
    refine lv_aload_n hx hb dX4_restart_56 rfl (lv_at hl 2 rfl) ?_
    refine va_get (D := gD g) (ci := 3) (v := .int (iI phy)) (C := RX0) (T := TX0) (N := 4) hx hb hts hin0 hown hK hP 3 rfl rfl 3 (by decide) (hts (.fieldLink RX4 38 "TunnelRing$Course" "headingY" "I") (List.mem_of_getElem? (i := 5) rfl)) (fun _ h9 => h9) rfl dX4_restart_57 ?_
    refine x_isub hx hb dX4_restart_60 ?_
    obtain ⟨v_4, ev_4⟩ : ∃ z : Int, z = lhy - phy := ⟨_, rfl⟩
    refine x_top ev_4.symm ?_
    refine va_put (D := gD g) (ci := 3) (v := .int (iI v_4)) (ty := tyX0 3) (C := RX0) (T := TX0) (N := 4) hx hb hts hin0 tyX0 tyX0_ok nmX0 hown hK hP hD hS 1 rfl rfl 3 (by decide) (hts (.fieldLink RX4 38 "TunnelRing$Course" "headingY" "I") (List.mem_of_getElem? (i := 5) rfl)) (fun _ h9 => h9) rfl (tyX0_ok 3 (by decide)) rfl rfl (Nat.le_of_ble_eq_true rfl) dX4_restart_61 (fun H locs hP hD hS => ?_)
    have hP : va_P (gD g) vwCl [(aS, .inr (7, [.ref aQ, .ref aSt, .ref aSx, .ref aSy, .int (iI sr), .int (iI sl)])), (aQ, .inr (3, [.int (iI v_1), .int (iI v_2), .int (iI v_3), .int (iI v_4)])), (aL, .inr (3, [.int (iI lx), .int (iI ly), .int (iI lhx), .int (iI lhy)])), (aK, .inr (3, [.int (iI px), .int (iI py), .int (iI phx), .int (iI phy)]))] H := hP
    have hD : va_D A [(aS, .inr (7, [.ref aQ, .ref aSt, .ref aSx, .ref aSy, .int (iI sr), .int (iI sl)])), (aQ, .inr (3, [.int (iI v_1), .int (iI v_2), .int (iI v_3), .int (iI v_4)])), (aL, .inr (3, [.int (iI lx), .int (iI ly), .int (iI lhx), .int (iI lhy)])), (aK, .inr (3, [.int (iI px), .int (iI py), .int (iI phx), .int (iI phy)]))] := hD
    refine lv_aload_n hx hb dX4_restart_64 rfl (lv_at hl 0 rfl) ?_
    refine x_iconst hx hb dX4_restart_65 ?_
    refine va_put (D := gD g) (ci := 7) (v := .int (iI 0)) (ty := tyX4 4) (C := RX4) (T := TX4) (N := 6) hx hb hts hin4 tyX4 tyX4_ok nmX4 hown hK hP hD hS 0 rfl rfl 4 (by decide) (hts (.fieldLink RX4 41 "TunnelRing$Search" "rings" "I") (List.mem_of_getElem? (i := 6) rfl)) (fun _ h9 => h9) rfl (tyX4_ok 4 (by decide)) rfl rfl (Nat.le_of_ble_eq_true rfl) dX4_restart_66 (fun H locs hP hD hS => ?_)
    have hP : va_P (gD g) vwCl [(aS, .inr (7, [.ref aQ, .ref aSt, .ref aSx, .ref aSy, .int (iI 0), .int (iI sl)])), (aQ, .inr (3, [.int (iI v_1), .int (iI v_2), .int (iI v_3), .int (iI v_4)])), (aL, .inr (3, [.int (iI lx), .int (iI ly), .int (iI lhx), .int (iI lhy)])), (aK, .inr (3, [.int (iI px), .int (iI py), .int (iI phx), .int (iI phy)]))] H := hP
    have hD : va_D A [(aS, .inr (7, [.ref aQ, .ref aSt, .ref aSx, .ref aSy, .int (iI 0), .int (iI sl)])), (aQ, .inr (3, [.int (iI v_1), .int (iI v_2), .int (iI v_3), .int (iI v_4)])), (aL, .inr (3, [.int (iI lx), .int (iI ly), .int (iI lhx), .int (iI lhy)])), (aK, .inr (3, [.int (iI px), .int (iI py), .int (iI phx), .int (iI phy)]))] := hD
    refine lv_aload_n hx hb dX4_restart_69 rfl (lv_at hl 0 rfl) ?_
    refine x_ldc (v := 2147483647) hx hb hown (hts (.constant RX4 44 (2147483647)) (List.mem_of_getElem? (i := 7) rfl)) (by decide) dX4_restart_70 ?_
    refine va_put (D := gD g) (ci := 7) (v := .int (iI 2147483647)) (ty := tyX4 5) (C := RX4) (T := TX4) (N := 6) hx hb hts hin4 tyX4 tyX4_ok nmX4 hown hK hP hD hS 0 rfl rfl 5 (by decide) (hts (.fieldLink RX4 45 "TunnelRing$Search" "least" "I") (List.mem_of_getElem? (i := 8) rfl)) (fun _ h9 => h9) rfl (tyX4_ok 5 (by decide)) rfl rfl (Nat.le_of_ble_eq_true rfl) dX4_restart_72 (fun H locs hP hD hS => ?_)
    have hP : va_P (gD g) vwCl [(aS, .inr (7, [.ref aQ, .ref aSt, .ref aSx, .ref aSy, .int (iI 0), .int (iI 2147483647)])), (aQ, .inr (3, [.int (iI v_1), .int (iI v_2), .int (iI v_3), .int (iI v_4)])), (aL, .inr (3, [.int (iI lx), .int (iI ly), .int (iI lhx), .int (iI lhy)])), (aK, .inr (3, [.int (iI px), .int (iI py), .int (iI phx), .int (iI phy)]))] H := hP
    have hD : va_D A [(aS, .inr (7, [.ref aQ, .ref aSt, .ref aSx, .ref aSy, .int (iI 0), .int (iI 2147483647)])), (aQ, .inr (3, [.int (iI v_1), .int (iI v_2), .int (iI v_3), .int (iI v_4)])), (aL, .inr (3, [.int (iI lx), .int (iI ly), .int (iI lhx), .int (iI lhy)])), (aK, .inr (3, [.int (iI px), .int (iI py), .int (iI phx), .int (iI phy)]))] := hD
    have q_5 : (lx - px) = v_1 := by
      first
      | (
         first | rfl | omega | (subst_vars; first | rfl | omega))
      | fail "q9"
    have q_6 : (ly - py) = v_2 := by
      first
      | (
         first | rfl | omega | (subst_vars; first | rfl | omega))
      | fail "q9"
    have q_7 : (lhx - phx) = v_3 := by
      first
      | (
         first | rfl | omega | (subst_vars; first | rfl | omega))
      | fail "q9"
    have q_8 : (lhy - phy) = v_4 := by
      first
      | (
         first | rfl | omega | (subst_vars; first | rfl | omega))
      | fail "q9"
    have hw_9 := (congr (congr (congr (congrArg (fun (z0 : Int) (z1 : Int) (z2 : Int) (z3 : Int) => ([(aS, .inr (7, [.ref aQ, .ref aSt, .ref aSx, .ref aSy, .int (iI 0), .int (iI 2147483647)])), (aQ, .inr (3, [.int (iI z0), .int (iI z1), .int (iI z2), .int (iI z3)])), (aL, .inr (3, [.int (iI lx), .int (iI ly), .int (iI lhx), .int (iI lhy)])), (aK, .inr (3, [.int (iI px), .int (iI py), .int (iI phx), .int (iI phy)]))] : va_W)) q_5.symm) q_6.symm) q_7.symm) q_8.symm)
    rw [hQ9]
    exact x_vret hx hb hr hlocks hP hD hS (S := Unit) (Φ := _) (W1 := _) dX4_restart_75 () trivial hw_9 (Nat.le_of_ble_eq_true rfl) (Nat.le_of_ble_eq_true rfl)
  rw [hH, hlo, hQ9] at goal_
  exact goal_

set_option maxHeartbeats 4000000 in
set_option maxRecDepth 100000 in
theorem c_X4_add (l : Launch) (g : xg) (sz : Nat) (aS aQ aSt aSx aSy : Nat) (sr sl nt nbx nby : Int) (st sx sy : Int → Int) (hsr : 0 ≤ sr ∧ sr < 4) : Met l yX4_add wsX4_add { frames := 0, cells := 0, slots := 0, locals := 0 } (va_Pc [.ref aS, .int (iI nt), .int (iI nbx), .int (iI nby)] (xB g [(aS, .inr (7, [.ref aQ, .ref aSt, .ref aSx, .ref aSy, .int (iI sr), .int (iI sl)])), (aSt, .inl (gI g, 4, .inl (ar st))), (aSx, .inl (gI g, 4, .inl (ar sx))), (aSy, .inl (gI g, 4, .inl (ar sy)))] sz)) (va_Qv (fun (u : Unit) => True) (fun u t => xE g (va_A [(aS, .inr (7, [.ref aQ, .ref aSt, .ref aSx, .ref aSy, .int (iI sr), .int (iI sl)])), (aSt, .inl (gI g, 4, .inl (ar st))), (aSx, .inl (gI g, 4, .inl (ar sx))), (aSy, .inl (gI g, 4, .inl (ar sy)))] sz) ((fun (u : Unit) => [(aS, .inr (7, [.ref aQ, .ref aSt, .ref aSx, .ref aSy, .int (iI (sr + 1)), .int (iI sl)])), (aSt, .inl (gI g, 4, .inl (ar (up st sr nt)))), (aSx, .inl (gI g, 4, .inl (ar (up sx sr nbx)))), (aSy, .inl (gI g, 4, .inl (ar (up sy sr nby))))]) u) t) (va_A [(aS, .inr (7, [.ref aQ, .ref aSt, .ref aSx, .ref aSy, .int (iI sr), .int (iI sl)])), (aSt, .inl (gI g, 4, .inl (ar st))), (aSx, .inl (gI g, 4, .inl (ar sx))), (aSy, .inl (gI g, 4, .inl (ar sy)))] sz)) 0 0 (va_A [(aS, .inr (7, [.ref aQ, .ref aSt, .ref aSx, .ref aSy, .int (iI sr), .int (iI sl)])), (aSt, .inl (gI g, 4, .inl (ar st))), (aSx, .inl (gI g, 4, .inl (ar sx))), (aSy, .inl (gI g, 4, .inl (ar sy)))] sz) := by
  refine x_enter (y := yX4_add) (ws := wsX4_add) (g := g) (sz := sz) (av := [.ref aS, .int (iI nt), .int (iI nbx), .int (iI nby)]) (WS := [(aS, .inr (7, [.ref aQ, .ref aSt, .ref aSx, .ref aSy, .int (iI sr), .int (iI sl)])), (aSt, .inl (gI g, 4, .inl (ar st))), (aSx, .inl (gI g, 4, .inl (ar sx))), (aSy, .inl (gI g, 4, .inl (ar sy)))]) (cc := cX4_add) (maxL := 4) (ret := none) (Qc := (fun A => (va_Qv (fun (u : Unit) => True) (fun u t => xE g A ((fun (u : Unit) => [(aS, .inr (7, [.ref aQ, .ref aSt, .ref aSx, .ref aSy, .int (iI (sr + 1)), .int (iI sl)])), (aSt, .inl (gI g, 4, .inl (ar (up st sr nt)))), (aSx, .inl (gI g, 4, .inl (ar (up sx sr nbx)))), (aSy, .inl (gI g, 4, .inl (ar (up sy sr nby))))]) u) t) A))) (by decide) rfl (Nat.le_of_ble_eq_true rfl) ?_
  intro p e s m args below meth c A ls hx hb hr hml hown hts hlocks hname hC hP hD hS hA hl
  have hK := hC.1
  have hown : s.vm.findClass RX4 = some m.cls := hown
  have hin4 : ∀ w ∈ u_ws RX4 TX4 6, w ∈ wsX4_add := by decide +kernel
  have hl : lv_has ls 4 [(0, .ref aS), (1, .int (iI nt)), (2, .int (iI nbx)), (3, .int (iI nby))] := hl
  obtain ⟨H, hH⟩ : ∃ z, z = s.heap := ⟨_, rfl⟩
  obtain ⟨locs, hlo⟩ : ∃ z : List Loc, z = [] := ⟨_, rfl⟩
  obtain ⟨Q9, hQ9⟩ : ∃ z, z = MQ below (va_Qv (fun (u : Unit) => True) (fun u t => xE g A ((fun (u : Unit) => [(aS, .inr (7, [.ref aQ, .ref aSt, .ref aSx, .ref aSy, .int (iI (sr + 1)), .int (iI sl)])), (aSt, .inl (gI g, 4, .inl (ar (up st sr nt)))), (aSx, .inl (gI g, 4, .inl (ar (up sx sr nbx)))), (aSy, .inl (gI g, 4, .inl (ar (up sy sr nby))))]) u) t) A) args s 0 0 A := ⟨_, rfl⟩
  have hP : va_P (gD g) vwCl [(aS, .inr (7, [.ref aQ, .ref aSt, .ref aSx, .ref aSy, .int (iI sr), .int (iI sl)])), (aSt, .inl (gI g, 4, .inl (ar st))), (aSx, .inl (gI g, 4, .inl (ar sx))), (aSy, .inl (gI g, 4, .inl (ar sy)))] H := by rw [hH]; exact hP
  have hS : va_S A s.heap H locs := by rw [hH, hlo]; exact hS
  have goal_ : W p l e { frames := 0, cells := 0, slots := 0, locals := 0 } s m args below meth c H locs 0 0 Q9 (F0 m 0 ls []) := by
    clear hH hlo
    refine lv_aload_n hx hb dX4_add_0 rfl (lv_at hl 0 rfl) ?_
    refine va_get (D := gD g) (ci := 7) (v := .int (iI sr)) (C := RX4) (T := TX4) (N := 6) hx hb hts hin4 hown hK hP 0 rfl rfl 4 (by decide) (hts (.fieldLink RX4 41 "TunnelRing$Search" "rings" "I") (List.mem_of_getElem? (i := 1) rfl)) (fun _ h9 => h9) rfl dX4_add_1 ?_
    refine x_iconst hx hb dX4_add_4 ?_
    refine x_cmp_ge (tgt := 48) hx hb (by omega) (by omega) dX4_add_5 (by decide) (fun c_1 => ?_) (fun c_1 => ?_)
    · skip
      exfalso; omega
    · skip
      refine lv_aload_n hx hb dX4_add_8 rfl (lv_at hl 0 rfl) ?_
      refine va_get (D := gD g) (ci := 7) (v := .ref aSt) (C := RX4) (T := TX4) (N := 6) hx hb hts hin4 hown hK hP 0 rfl rfl 1 (by decide) (hts (.fieldLink RX4 18 "TunnelRing$Search" "taper" "[I") (List.mem_of_getElem? (i := 2) rfl)) (fun _ h9 => h9) rfl dX4_add_9 ?_
      refine lv_aload_n hx hb dX4_add_12 rfl (lv_at hl 0 rfl) ?_
      refine va_get (D := gD g) (ci := 7) (v := .int (iI sr)) (C := RX4) (T := TX4) (N := 6) hx hb hts hin4 hown hK hP 0 rfl rfl 4 (by decide) (hts (.fieldLink RX4 41 "TunnelRing$Search" "rings" "I") (List.mem_of_getElem? (i := 1) rfl)) (fun _ h9 => h9) rfl dX4_add_13 ?_
      refine lv_iload_n hx hb dX4_add_16 rfl (lv_at hl 1 rfl) ?_
      refine x_iast hx hb hK hP hD hS 1 0 rfl rfl (by omega) (by omega) (Nat.le_of_ble_eq_true rfl) dX4_add_17 (fun H locs hP hD hS => ?_)
      have hP : va_P (gD g) vwCl [(aS, .inr (7, [.ref aQ, .ref aSt, .ref aSx, .ref aSy, .int (iI sr), .int (iI sl)])), (aSt, .inl (gI g, 4, .inl (ar (up st sr nt)))), (aSx, .inl (gI g, 4, .inl (ar sx))), (aSy, .inl (gI g, 4, .inl (ar sy)))] H := hP
      have hD : va_D A [(aS, .inr (7, [.ref aQ, .ref aSt, .ref aSx, .ref aSy, .int (iI sr), .int (iI sl)])), (aSt, .inl (gI g, 4, .inl (ar (up st sr nt)))), (aSx, .inl (gI g, 4, .inl (ar sx))), (aSy, .inl (gI g, 4, .inl (ar sy)))] := hD
      refine lv_aload_n hx hb dX4_add_18 rfl (lv_at hl 0 rfl) ?_
      refine va_get (D := gD g) (ci := 7) (v := .ref aSx) (C := RX4) (T := TX4) (N := 6) hx hb hts hin4 hown hK hP 0 rfl rfl 2 (by decide) (hts (.fieldLink RX4 22 "TunnelRing$Search" "bendX" "[I") (List.mem_of_getElem? (i := 3) rfl)) (fun _ h9 => h9) rfl dX4_add_19 ?_
      refine lv_aload_n hx hb dX4_add_22 rfl (lv_at hl 0 rfl) ?_
      refine va_get (D := gD g) (ci := 7) (v := .int (iI sr)) (C := RX4) (T := TX4) (N := 6) hx hb hts hin4 hown hK hP 0 rfl rfl 4 (by decide) (hts (.fieldLink RX4 41 "TunnelRing$Search" "rings" "I") (List.mem_of_getElem? (i := 1) rfl)) (fun _ h9 => h9) rfl dX4_add_23 ?_
      refine lv_iload_n hx hb dX4_add_26 rfl (lv_at hl 2 rfl) ?_
      refine x_iast hx hb hK hP hD hS 2 0 rfl rfl (by omega) (by omega) (Nat.le_of_ble_eq_true rfl) dX4_add_27 (fun H locs hP hD hS => ?_)
      have hP : va_P (gD g) vwCl [(aS, .inr (7, [.ref aQ, .ref aSt, .ref aSx, .ref aSy, .int (iI sr), .int (iI sl)])), (aSt, .inl (gI g, 4, .inl (ar (up st sr nt)))), (aSx, .inl (gI g, 4, .inl (ar (up sx sr nbx)))), (aSy, .inl (gI g, 4, .inl (ar sy)))] H := hP
      have hD : va_D A [(aS, .inr (7, [.ref aQ, .ref aSt, .ref aSx, .ref aSy, .int (iI sr), .int (iI sl)])), (aSt, .inl (gI g, 4, .inl (ar (up st sr nt)))), (aSx, .inl (gI g, 4, .inl (ar (up sx sr nbx)))), (aSy, .inl (gI g, 4, .inl (ar sy)))] := hD
      refine lv_aload_n hx hb dX4_add_28 rfl (lv_at hl 0 rfl) ?_
      refine va_get (D := gD g) (ci := 7) (v := .ref aSy) (C := RX4) (T := TX4) (N := 6) hx hb hts hin4 hown hK hP 0 rfl rfl 3 (by decide) (hts (.fieldLink RX4 25 "TunnelRing$Search" "bendY" "[I") (List.mem_of_getElem? (i := 4) rfl)) (fun _ h9 => h9) rfl dX4_add_29 ?_
      refine lv_aload_n hx hb dX4_add_32 rfl (lv_at hl 0 rfl) ?_
      refine va_get (D := gD g) (ci := 7) (v := .int (iI sr)) (C := RX4) (T := TX4) (N := 6) hx hb hts hin4 hown hK hP 0 rfl rfl 4 (by decide) (hts (.fieldLink RX4 41 "TunnelRing$Search" "rings" "I") (List.mem_of_getElem? (i := 1) rfl)) (fun _ h9 => h9) rfl dX4_add_33 ?_
      refine lv_iload_n hx hb dX4_add_36 rfl (lv_at hl 3 rfl) ?_
      refine x_iast hx hb hK hP hD hS 3 0 rfl rfl (by omega) (by omega) (Nat.le_of_ble_eq_true rfl) dX4_add_37 (fun H locs hP hD hS => ?_)
      have hP : va_P (gD g) vwCl [(aS, .inr (7, [.ref aQ, .ref aSt, .ref aSx, .ref aSy, .int (iI sr), .int (iI sl)])), (aSt, .inl (gI g, 4, .inl (ar (up st sr nt)))), (aSx, .inl (gI g, 4, .inl (ar (up sx sr nbx)))), (aSy, .inl (gI g, 4, .inl (ar (up sy sr nby))))] H := hP
      have hD : va_D A [(aS, .inr (7, [.ref aQ, .ref aSt, .ref aSx, .ref aSy, .int (iI sr), .int (iI sl)])), (aSt, .inl (gI g, 4, .inl (ar (up st sr nt)))), (aSx, .inl (gI g, 4, .inl (ar (up sx sr nbx)))), (aSy, .inl (gI g, 4, .inl (ar (up sy sr nby))))] := hD
      refine lv_aload_n hx hb dX4_add_38 rfl (lv_at hl 0 rfl) ?_
      refine lv_dup hx hb dX4_add_39 rfl ?_
      refine va_get (D := gD g) (ci := 7) (v := .int (iI sr)) (C := RX4) (T := TX4) (N := 6) hx hb hts hin4 hown hK hP 0 rfl rfl 4 (by decide) (hts (.fieldLink RX4 41 "TunnelRing$Search" "rings" "I") (List.mem_of_getElem? (i := 1) rfl)) (fun _ h9 => h9) rfl dX4_add_40 ?_
      refine x_iconst hx hb dX4_add_43 ?_
      refine x_iadd hx hb dX4_add_44 ?_
      obtain ⟨v_2, ev_2⟩ : ∃ z : Int, z = sr + 1 := ⟨_, rfl⟩
      refine x_top ev_2.symm ?_
      refine va_put (D := gD g) (ci := 7) (v := .int (iI v_2)) (ty := tyX4 4) (C := RX4) (T := TX4) (N := 6) hx hb hts hin4 tyX4 tyX4_ok nmX4 hown hK hP hD hS 0 rfl rfl 4 (by decide) (hts (.fieldLink RX4 41 "TunnelRing$Search" "rings" "I") (List.mem_of_getElem? (i := 1) rfl)) (fun _ h9 => h9) rfl (tyX4_ok 4 (by decide)) rfl rfl (Nat.le_of_ble_eq_true rfl) dX4_add_45 (fun H locs hP hD hS => ?_)
      have hP : va_P (gD g) vwCl [(aS, .inr (7, [.ref aQ, .ref aSt, .ref aSx, .ref aSy, .int (iI v_2), .int (iI sl)])), (aSt, .inl (gI g, 4, .inl (ar (up st sr nt)))), (aSx, .inl (gI g, 4, .inl (ar (up sx sr nbx)))), (aSy, .inl (gI g, 4, .inl (ar (up sy sr nby))))] H := hP
      have hD : va_D A [(aS, .inr (7, [.ref aQ, .ref aSt, .ref aSx, .ref aSy, .int (iI v_2), .int (iI sl)])), (aSt, .inl (gI g, 4, .inl (ar (up st sr nt)))), (aSx, .inl (gI g, 4, .inl (ar (up sx sr nbx)))), (aSy, .inl (gI g, 4, .inl (ar (up sy sr nby))))] := hD
      have q_3 : (sr + 1) = v_2 := by
        first
        | (
           first | rfl | omega | (subst_vars; first | rfl | omega))
        | fail "q9"
      have hw_4 := (congrArg (fun (z0 : Int) => ([(aS, .inr (7, [.ref aQ, .ref aSt, .ref aSx, .ref aSy, .int (iI z0), .int (iI sl)])), (aSt, .inl (gI g, 4, .inl (ar (up st sr nt)))), (aSx, .inl (gI g, 4, .inl (ar (up sx sr nbx)))), (aSy, .inl (gI g, 4, .inl (ar (up sy sr nby))))] : va_W)) q_3.symm)
      rw [hQ9]
      exact x_vret hx hb hr hlocks hP hD hS (S := Unit) (Φ := _) (W1 := _) dX4_add_48 () trivial hw_4 (Nat.le_of_ble_eq_true rfl) (Nat.le_of_ble_eq_true rfl)
  rw [hH, hlo, hQ9] at goal_
  exact goal_

set_option maxHeartbeats 4000000 in
set_option maxRecDepth 100000 in
theorem c_X4_changeX (l : Launch) (g : xg) (sz : Nat) (aS aQ aSt aSx aSy : Nat) (sr sl stp po : Int) (st sx : Int → Int) (hstp : 0 ≤ stp ∧ stp < 4) (hpo : 0 ≤ po ∧ po ≤ 7) : Met l yX4_changeX wsX4_changeX { frames := 0, cells := 0, slots := 0, locals := 0 } (va_Pc [.ref aS, .int (iI stp), .int (iI po)] (xB g [(aS, .inr (7, [.ref aQ, .ref aSt, .ref aSx, .ref aSy, .int (iI sr), .int (iI sl)])), (aSt, .inl (gI g, 4, .inl (ar st))), (aSx, .inl (gI g, 4, .inl (ar sx)))] sz)) (va_Qi (fun r u => r = iI ((fun (u : Unit) => st stp * toSide po - sx stp) u) ∧ (fun (u : Unit) => True) u) (fun u t => xE g (va_A [(aS, .inr (7, [.ref aQ, .ref aSt, .ref aSx, .ref aSy, .int (iI sr), .int (iI sl)])), (aSt, .inl (gI g, 4, .inl (ar st))), (aSx, .inl (gI g, 4, .inl (ar sx)))] sz) ((fun (u : Unit) => [(aS, .inr (7, [.ref aQ, .ref aSt, .ref aSx, .ref aSy, .int (iI sr), .int (iI sl)])), (aSt, .inl (gI g, 4, .inl (ar st))), (aSx, .inl (gI g, 4, .inl (ar sx)))]) u) t) (va_A [(aS, .inr (7, [.ref aQ, .ref aSt, .ref aSx, .ref aSy, .int (iI sr), .int (iI sl)])), (aSt, .inl (gI g, 4, .inl (ar st))), (aSx, .inl (gI g, 4, .inl (ar sx)))] sz)) 0 0 (va_A [(aS, .inr (7, [.ref aQ, .ref aSt, .ref aSx, .ref aSy, .int (iI sr), .int (iI sl)])), (aSt, .inl (gI g, 4, .inl (ar st))), (aSx, .inl (gI g, 4, .inl (ar sx)))] sz) := by
  refine x_enter (y := yX4_changeX) (ws := wsX4_changeX) (g := g) (sz := sz) (av := [.ref aS, .int (iI stp), .int (iI po)]) (WS := [(aS, .inr (7, [.ref aQ, .ref aSt, .ref aSx, .ref aSy, .int (iI sr), .int (iI sl)])), (aSt, .inl (gI g, 4, .inl (ar st))), (aSx, .inl (gI g, 4, .inl (ar sx)))]) (cc := cX4_changeX) (maxL := 3) (ret := some .int) (Qc := (fun A => (va_Qi (fun r u => r = iI ((fun (u : Unit) => st stp * toSide po - sx stp) u) ∧ (fun (u : Unit) => True) u) (fun u t => xE g A ((fun (u : Unit) => [(aS, .inr (7, [.ref aQ, .ref aSt, .ref aSx, .ref aSy, .int (iI sr), .int (iI sl)])), (aSt, .inl (gI g, 4, .inl (ar st))), (aSx, .inl (gI g, 4, .inl (ar sx)))]) u) t) A))) (by decide) rfl (Nat.le_of_ble_eq_true rfl) ?_
  intro p e s m args below meth c A ls hx hb hr hml hown hts hlocks hname hC hP hD hS hA hl
  have hK := hC.1
  have hown : s.vm.findClass RX4 = some m.cls := hown
  have hin4 : ∀ w ∈ u_ws RX4 TX4 6, w ∈ wsX4_changeX := by decide +kernel
  have hl : lv_has ls 3 [(0, .ref aS), (1, .int (iI stp)), (2, .int (iI po))] := hl
  obtain ⟨H, hH⟩ : ∃ z, z = s.heap := ⟨_, rfl⟩
  obtain ⟨locs, hlo⟩ : ∃ z : List Loc, z = [] := ⟨_, rfl⟩
  obtain ⟨Q9, hQ9⟩ : ∃ z, z = MQ below (va_Qi (fun r u => r = iI ((fun (u : Unit) => st stp * toSide po - sx stp) u) ∧ (fun (u : Unit) => True) u) (fun u t => xE g A ((fun (u : Unit) => [(aS, .inr (7, [.ref aQ, .ref aSt, .ref aSx, .ref aSy, .int (iI sr), .int (iI sl)])), (aSt, .inl (gI g, 4, .inl (ar st))), (aSx, .inl (gI g, 4, .inl (ar sx)))]) u) t) A) args s 0 0 A := ⟨_, rfl⟩
  have hP : va_P (gD g) vwCl [(aS, .inr (7, [.ref aQ, .ref aSt, .ref aSx, .ref aSy, .int (iI sr), .int (iI sl)])), (aSt, .inl (gI g, 4, .inl (ar st))), (aSx, .inl (gI g, 4, .inl (ar sx)))] H := by rw [hH]; exact hP
  have hS : va_S A s.heap H locs := by rw [hH, hlo]; exact hS
  have goal_ : W p l e { frames := 0, cells := 0, slots := 0, locals := 0 } s m args below meth c H locs 0 0 Q9 (F0 m 0 ls []) := by
    clear hH hlo
    refine lv_aload_n hx hb dX4_changeX_0 rfl (lv_at hl 0 rfl) ?_
    refine va_get (D := gD g) (ci := 7) (v := .ref aSt) (C := RX4) (T := TX4) (N := 6) hx hb hts hin4 hown hK hP 0 rfl rfl 1 (by decide) (hts (.fieldLink RX4 18 "TunnelRing$Search" "taper" "[I") (List.mem_of_getElem? (i := 1) rfl)) (fun _ h9 => h9) rfl dX4_changeX_1 ?_
    refine lv_iload_n hx hb dX4_changeX_4 rfl (lv_at hl 1 rfl) ?_
    refine x_iald hx hb hK hP 1 0 rfl rfl (by omega) (by omega) (Nat.le_of_ble_eq_true rfl) dX4_changeX_5 (fun v_1 hv_1 => ?_)
    refine va_getsN hx hb hC.2.1.1 hS hown (va_Nw.use rfl (hC.2.2.2.2.2.2.2.1 (RX4, 62, "TO_SIDE") (List.mem_of_getElem? (i := 2) rfl))) (fun _ h9 => h9) dX4_changeX_6 ?_
    refine lv_iload_n hx hb dX4_changeX_9 rfl (lv_at hl 2 rfl) ?_
    refine x_tald hx hb hC.2.1.2 hS (by omega) (by omega) (Nat.le_of_ble_eq_true rfl) dX4_changeX_10 (fun v_2 hv_2 => ?_)
    have bv_2 : -1 ≤ v_2 ∧ v_2 ≤ 1 := by rw [hv_2]; exact toSide_r _
    refine x_imul hx hb dX4_changeX_11 ?_
    refine lv_aload_n hx hb dX4_changeX_12 rfl (lv_at hl 0 rfl) ?_
    refine va_get (D := gD g) (ci := 7) (v := .ref aSx) (C := RX4) (T := TX4) (N := 6) hx hb hts hin4 hown hK hP 0 rfl rfl 2 (by decide) (hts (.fieldLink RX4 22 "TunnelRing$Search" "bendX" "[I") (List.mem_of_getElem? (i := 2) rfl)) (fun _ h9 => h9) rfl dX4_changeX_13 ?_
    refine lv_iload_n hx hb dX4_changeX_16 rfl (lv_at hl 1 rfl) ?_
    refine x_iald hx hb hK hP 2 0 rfl rfl (by omega) (by omega) (Nat.le_of_ble_eq_true rfl) dX4_changeX_17 (fun v_3 hv_3 => ?_)
    refine x_isub hx hb dX4_changeX_18 ?_
    rw [hQ9]
    exact x_iret hx hb hr hlocks hP hD hS (S := Unit) rfl dX4_changeX_19 () (by
        first
        | (
           first | rfl | omega | (subst_vars; first | rfl | omega))
        | fail "q9") trivial rfl (Nat.le_of_ble_eq_true rfl) (Nat.le_of_ble_eq_true rfl)
  rw [hH, hlo, hQ9] at goal_
  exact goal_

set_option maxHeartbeats 4000000 in
set_option maxRecDepth 100000 in
theorem c_X4_changeY (l : Launch) (g : xg) (sz : Nat) (aS aQ aSt aSx aSy : Nat) (sr sl stp po : Int) (st sy : Int → Int) (hstp : 0 ≤ stp ∧ stp < 4) (hpo : 0 ≤ po ∧ po ≤ 7) : Met l yX4_changeY wsX4_changeY { frames := 0, cells := 0, slots := 0, locals := 0 } (va_Pc [.ref aS, .int (iI stp), .int (iI po)] (xB g [(aS, .inr (7, [.ref aQ, .ref aSt, .ref aSx, .ref aSy, .int (iI sr), .int (iI sl)])), (aSt, .inl (gI g, 4, .inl (ar st))), (aSy, .inl (gI g, 4, .inl (ar sy)))] sz)) (va_Qi (fun r u => r = iI ((fun (u : Unit) => st stp * upward po - sy stp) u) ∧ (fun (u : Unit) => True) u) (fun u t => xE g (va_A [(aS, .inr (7, [.ref aQ, .ref aSt, .ref aSx, .ref aSy, .int (iI sr), .int (iI sl)])), (aSt, .inl (gI g, 4, .inl (ar st))), (aSy, .inl (gI g, 4, .inl (ar sy)))] sz) ((fun (u : Unit) => [(aS, .inr (7, [.ref aQ, .ref aSt, .ref aSx, .ref aSy, .int (iI sr), .int (iI sl)])), (aSt, .inl (gI g, 4, .inl (ar st))), (aSy, .inl (gI g, 4, .inl (ar sy)))]) u) t) (va_A [(aS, .inr (7, [.ref aQ, .ref aSt, .ref aSx, .ref aSy, .int (iI sr), .int (iI sl)])), (aSt, .inl (gI g, 4, .inl (ar st))), (aSy, .inl (gI g, 4, .inl (ar sy)))] sz)) 0 0 (va_A [(aS, .inr (7, [.ref aQ, .ref aSt, .ref aSx, .ref aSy, .int (iI sr), .int (iI sl)])), (aSt, .inl (gI g, 4, .inl (ar st))), (aSy, .inl (gI g, 4, .inl (ar sy)))] sz) := by
  refine x_enter (y := yX4_changeY) (ws := wsX4_changeY) (g := g) (sz := sz) (av := [.ref aS, .int (iI stp), .int (iI po)]) (WS := [(aS, .inr (7, [.ref aQ, .ref aSt, .ref aSx, .ref aSy, .int (iI sr), .int (iI sl)])), (aSt, .inl (gI g, 4, .inl (ar st))), (aSy, .inl (gI g, 4, .inl (ar sy)))]) (cc := cX4_changeY) (maxL := 3) (ret := some .int) (Qc := (fun A => (va_Qi (fun r u => r = iI ((fun (u : Unit) => st stp * upward po - sy stp) u) ∧ (fun (u : Unit) => True) u) (fun u t => xE g A ((fun (u : Unit) => [(aS, .inr (7, [.ref aQ, .ref aSt, .ref aSx, .ref aSy, .int (iI sr), .int (iI sl)])), (aSt, .inl (gI g, 4, .inl (ar st))), (aSy, .inl (gI g, 4, .inl (ar sy)))]) u) t) A))) (by decide) rfl (Nat.le_of_ble_eq_true rfl) ?_
  intro p e s m args below meth c A ls hx hb hr hml hown hts hlocks hname hC hP hD hS hA hl
  have hK := hC.1
  have hown : s.vm.findClass RX4 = some m.cls := hown
  have hin4 : ∀ w ∈ u_ws RX4 TX4 6, w ∈ wsX4_changeY := by decide +kernel
  have hl : lv_has ls 3 [(0, .ref aS), (1, .int (iI stp)), (2, .int (iI po))] := hl
  obtain ⟨H, hH⟩ : ∃ z, z = s.heap := ⟨_, rfl⟩
  obtain ⟨locs, hlo⟩ : ∃ z : List Loc, z = [] := ⟨_, rfl⟩
  obtain ⟨Q9, hQ9⟩ : ∃ z, z = MQ below (va_Qi (fun r u => r = iI ((fun (u : Unit) => st stp * upward po - sy stp) u) ∧ (fun (u : Unit) => True) u) (fun u t => xE g A ((fun (u : Unit) => [(aS, .inr (7, [.ref aQ, .ref aSt, .ref aSx, .ref aSy, .int (iI sr), .int (iI sl)])), (aSt, .inl (gI g, 4, .inl (ar st))), (aSy, .inl (gI g, 4, .inl (ar sy)))]) u) t) A) args s 0 0 A := ⟨_, rfl⟩
  have hP : va_P (gD g) vwCl [(aS, .inr (7, [.ref aQ, .ref aSt, .ref aSx, .ref aSy, .int (iI sr), .int (iI sl)])), (aSt, .inl (gI g, 4, .inl (ar st))), (aSy, .inl (gI g, 4, .inl (ar sy)))] H := by rw [hH]; exact hP
  have hS : va_S A s.heap H locs := by rw [hH, hlo]; exact hS
  have goal_ : W p l e { frames := 0, cells := 0, slots := 0, locals := 0 } s m args below meth c H locs 0 0 Q9 (F0 m 0 ls []) := by
    clear hH hlo
    refine lv_aload_n hx hb dX4_changeY_0 rfl (lv_at hl 0 rfl) ?_
    refine va_get (D := gD g) (ci := 7) (v := .ref aSt) (C := RX4) (T := TX4) (N := 6) hx hb hts hin4 hown hK hP 0 rfl rfl 1 (by decide) (hts (.fieldLink RX4 18 "TunnelRing$Search" "taper" "[I") (List.mem_of_getElem? (i := 1) rfl)) (fun _ h9 => h9) rfl dX4_changeY_1 ?_
    refine lv_iload_n hx hb dX4_changeY_4 rfl (lv_at hl 1 rfl) ?_
    refine x_iald hx hb hK hP 1 0 rfl rfl (by omega) (by omega) (Nat.le_of_ble_eq_true rfl) dX4_changeY_5 (fun v_1 hv_1 => ?_)
    refine va_getsN hx hb hC.2.2.1.1 hS hown (va_Nw.use rfl (hC.2.2.2.2.2.2.2.1 (RX4, 65, "UPWARD") (List.mem_of_getElem? (i := 3) rfl))) (fun _ h9 => h9) dX4_changeY_6 ?_
    refine lv_iload_n hx hb dX4_changeY_9 rfl (lv_at hl 2 rfl) ?_
    refine x_tald hx hb hC.2.2.1.2 hS (by omega) (by omega) (Nat.le_of_ble_eq_true rfl) dX4_changeY_10 (fun v_2 hv_2 => ?_)
    have bv_2 : -1 ≤ v_2 ∧ v_2 ≤ 1 := by rw [hv_2]; exact upward_r _
    refine x_imul hx hb dX4_changeY_11 ?_
    refine lv_aload_n hx hb dX4_changeY_12 rfl (lv_at hl 0 rfl) ?_
    refine va_get (D := gD g) (ci := 7) (v := .ref aSy) (C := RX4) (T := TX4) (N := 6) hx hb hts hin4 hown hK hP 0 rfl rfl 3 (by decide) (hts (.fieldLink RX4 25 "TunnelRing$Search" "bendY" "[I") (List.mem_of_getElem? (i := 2) rfl)) (fun _ h9 => h9) rfl dX4_changeY_13 ?_
    refine lv_iload_n hx hb dX4_changeY_16 rfl (lv_at hl 1 rfl) ?_
    refine x_iald hx hb hK hP 2 0 rfl rfl (by omega) (by omega) (Nat.le_of_ble_eq_true rfl) dX4_changeY_17 (fun v_3 hv_3 => ?_)
    refine x_isub hx hb dX4_changeY_18 ?_
    rw [hQ9]
    exact x_iret hx hb hr hlocks hP hD hS (S := Unit) rfl dX4_changeY_19 () (by
        first
        | (
           first | rfl | omega | (subst_vars; first | rfl | omega))
        | fail "q9") trivial rfl (Nat.le_of_ble_eq_true rfl) (Nat.le_of_ble_eq_true rfl)
  rw [hH, hlo, hQ9] at goal_
  exact goal_

set_option maxHeartbeats 4000000 in
set_option maxRecDepth 100000 in
theorem c_X4_tryOut (l : Launch) (g : xg) (sz : Nat) (aS aQ aSt aSx aSy : Nat) (sr sl qx qy qhx qhy stp po : Int) (st sx sy : Int → Int) (hstp : 0 ≤ stp ∧ stp < 4) (hpo : 0 ≤ po ∧ po ≤ 7) : Met l yX4_tryOut wsX4_tryOut { frames := 1, cells := 0, slots := 0, locals := 22 } (va_Pc [.ref aS, .int (iI stp), .int (iI po)] (xB g [(aS, .inr (7, [.ref aQ, .ref aSt, .ref aSx, .ref aSy, .int (iI sr), .int (iI sl)])), (aQ, .inr (3, [.int (iI qx), .int (iI qy), .int (iI qhx), .int (iI qhy)])), (aSt, .inl (gI g, 4, .inl (ar st))), (aSx, .inl (gI g, 4, .inl (ar sx))), (aSy, .inl (gI g, 4, .inl (ar sy)))] sz)) (va_Qv (fun (u : Unit) => True) (fun u t => xE g (va_A [(aS, .inr (7, [.ref aQ, .ref aSt, .ref aSx, .ref aSy, .int (iI sr), .int (iI sl)])), (aQ, .inr (3, [.int (iI qx), .int (iI qy), .int (iI qhx), .int (iI qhy)])), (aSt, .inl (gI g, 4, .inl (ar st))), (aSx, .inl (gI g, 4, .inl (ar sx))), (aSy, .inl (gI g, 4, .inl (ar sy)))] sz) ((fun (u : Unit) => [(aS, .inr (7, [.ref aQ, .ref aSt, .ref aSx, .ref aSy, .int (iI sr), .int (iI sl)])), (aQ, .inr (3, [.int (iI (qx + (qhx + (st stp * toSide po - sx stp)))), .int (iI (qy + (qhy + (st stp * upward po - sy stp)))), .int (iI (qhx + (st stp * toSide po - sx stp))), .int (iI (qhy + (st stp * upward po - sy stp)))])), (aSt, .inl (gI g, 4, .inl (ar st))), (aSx, .inl (gI g, 4, .inl (ar sx))), (aSy, .inl (gI g, 4, .inl (ar sy)))]) u) t) (va_A [(aS, .inr (7, [.ref aQ, .ref aSt, .ref aSx, .ref aSy, .int (iI sr), .int (iI sl)])), (aQ, .inr (3, [.int (iI qx), .int (iI qy), .int (iI qhx), .int (iI qhy)])), (aSt, .inl (gI g, 4, .inl (ar st))), (aSx, .inl (gI g, 4, .inl (ar sx))), (aSy, .inl (gI g, 4, .inl (ar sy)))] sz)) 0 0 (va_A [(aS, .inr (7, [.ref aQ, .ref aSt, .ref aSx, .ref aSy, .int (iI sr), .int (iI sl)])), (aQ, .inr (3, [.int (iI qx), .int (iI qy), .int (iI qhx), .int (iI qhy)])), (aSt, .inl (gI g, 4, .inl (ar st))), (aSx, .inl (gI g, 4, .inl (ar sx))), (aSy, .inl (gI g, 4, .inl (ar sy)))] sz) := by
  refine x_enter (y := yX4_tryOut) (ws := wsX4_tryOut) (g := g) (sz := sz) (av := [.ref aS, .int (iI stp), .int (iI po)]) (WS := [(aS, .inr (7, [.ref aQ, .ref aSt, .ref aSx, .ref aSy, .int (iI sr), .int (iI sl)])), (aQ, .inr (3, [.int (iI qx), .int (iI qy), .int (iI qhx), .int (iI qhy)])), (aSt, .inl (gI g, 4, .inl (ar st))), (aSx, .inl (gI g, 4, .inl (ar sx))), (aSy, .inl (gI g, 4, .inl (ar sy)))]) (cc := cX4_tryOut) (maxL := 3) (ret := none) (Qc := (fun A => (va_Qv (fun (u : Unit) => True) (fun u t => xE g A ((fun (u : Unit) => [(aS, .inr (7, [.ref aQ, .ref aSt, .ref aSx, .ref aSy, .int (iI sr), .int (iI sl)])), (aQ, .inr (3, [.int (iI (qx + (qhx + (st stp * toSide po - sx stp)))), .int (iI (qy + (qhy + (st stp * upward po - sy stp)))), .int (iI (qhx + (st stp * toSide po - sx stp))), .int (iI (qhy + (st stp * upward po - sy stp)))])), (aSt, .inl (gI g, 4, .inl (ar st))), (aSx, .inl (gI g, 4, .inl (ar sx))), (aSy, .inl (gI g, 4, .inl (ar sy)))]) u) t) A))) (by decide) rfl (Nat.le_of_ble_eq_true rfl) ?_
  intro p e s m args below meth c A ls hx hb hr hml hown hts hlocks hname hC hP hD hS hA hl
  have hK := hC.1
  have hown : s.vm.findClass RX4 = some m.cls := hown
  have hin4 : ∀ w ∈ u_ws RX4 TX4 6, w ∈ wsX4_tryOut := by decide +kernel
  have hl : lv_has ls 3 [(0, .ref aS), (1, .int (iI stp)), (2, .int (iI po))] := hl
  obtain ⟨H, hH⟩ : ∃ z, z = s.heap := ⟨_, rfl⟩
  obtain ⟨locs, hlo⟩ : ∃ z : List Loc, z = [] := ⟨_, rfl⟩
  obtain ⟨Q9, hQ9⟩ : ∃ z, z = MQ below (va_Qv (fun (u : Unit) => True) (fun u t => xE g A ((fun (u : Unit) => [(aS, .inr (7, [.ref aQ, .ref aSt, .ref aSx, .ref aSy, .int (iI sr), .int (iI sl)])), (aQ, .inr (3, [.int (iI (qx + (qhx + (st stp * toSide po - sx stp)))), .int (iI (qy + (qhy + (st stp * upward po - sy stp)))), .int (iI (qhx + (st stp * toSide po - sx stp))), .int (iI (qhy + (st stp * upward po - sy stp)))])), (aSt, .inl (gI g, 4, .inl (ar st))), (aSx, .inl (gI g, 4, .inl (ar sx))), (aSy, .inl (gI g, 4, .inl (ar sy)))]) u) t) A) args s 0 0 A := ⟨_, rfl⟩
  have hP : va_P (gD g) vwCl [(aS, .inr (7, [.ref aQ, .ref aSt, .ref aSx, .ref aSy, .int (iI sr), .int (iI sl)])), (aQ, .inr (3, [.int (iI qx), .int (iI qy), .int (iI qhx), .int (iI qhy)])), (aSt, .inl (gI g, 4, .inl (ar st))), (aSx, .inl (gI g, 4, .inl (ar sx))), (aSy, .inl (gI g, 4, .inl (ar sy)))] H := by rw [hH]; exact hP
  have hS : va_S A s.heap H locs := by rw [hH, hlo]; exact hS
  have goal_ : W p l e { frames := 1, cells := 0, slots := 0, locals := 22 } s m args below meth c H locs 0 0 Q9 (F0 m 0 ls []) := by
    clear hH hlo
    refine lv_aload_n hx hb dX4_tryOut_0 rfl (lv_at hl 0 rfl) ?_
    refine va_get (D := gD g) (ci := 7) (v := .ref aQ) (C := RX4) (T := TX4) (N := 6) hx hb hts hin4 hown hK hP 0 rfl rfl 0 (by decide) (hts (.fieldLink RX4 12 "TunnelRing$Search" "gap" "LTunnelRing$Course;") (List.mem_of_getElem? (i := 1) rfl)) (fun _ h9 => h9) rfl dX4_tryOut_1 ?_
    refine lv_aload_n hx hb dX4_tryOut_4 rfl (lv_at hl 0 rfl) ?_
    refine lv_iload_n hx hb dX4_tryOut_5 rfl (lv_at hl 1 rfl) ?_
    refine lv_iload_n hx hb dX4_tryOut_6 rfl (lv_at hl 2 rfl) ?_
    refine x_calli (S := Unit) (wc := [(aS, .inr (7, [.ref aQ, .ref aSt, .ref aSx, .ref aSy, .int (iI sr), .int (iI sl)])), (aSt, .inl (gI g, 4, .inl (ar st))), (aSx, .inl (gI g, 4, .inl (ar sx)))]) (wr := [(aQ, .inr (3, [.int (iI qx), .int (iI qy), .int (iI qhx), .int (iI qhy)])), (aSy, .inl (gI g, 4, .inl (ar sy)))]) hC hP hD hS hA [0, 2, 3] [1, 4] [2, 0, 3, 4, 1] rfl rfl (fun hpre => va_runV (As := [.int (iI stp), .int (iI po)]) (rest := [.ref aQ]) ⟨hx, hb, hml, hown, hts⟩ (c_X4_changeX l g H.size aS aQ aSt aSx aSy sr sl stp po st sx (by first | (first | assumption | omega | exact bnd_up (by assumption) (by omega) (by omega)) | fail "q8") (by first | (first | assumption | omega | exact bnd_up (by assumption) (by omega) (by omega)) | fail "q8")) (cwV 2 hts gX4_tryOut_X4_changeX rfl rfl rfl (by decide +kernel) ⟨Nat.le_of_ble_eq_true rfl, Nat.le_of_ble_eq_true rfl⟩) ⟨xB_blind, va_recv hK hP (ci := 7) (q0 := 0) rfl rfl, hpre _⟩ rfl rfl hl.1 rfl (lv_room (Nat.le_of_ble_eq_true rfl)) dX4_tryOut_7 ⟨Nat.le_of_ble_eq_true rfl, Nat.le_of_ble_eq_true rfl⟩) (fun (u : Unit) => [(aS, .inr (7, [.ref aQ, .ref aSt, .ref aSx, .ref aSy, .int (iI sr), .int (iI sl)])), (aQ, .inr (3, [.int (iI qx), .int (iI qy), .int (iI qhx), .int (iI qhy)])), (aSt, .inl (gI g, 4, .inl (ar st))), (aSx, .inl (gI g, 4, .inl (ar sx))), (aSy, .inl (gI g, 4, .inl (ar sy)))]) rfl rfl (by decide) (fun _ => rfl) rfl (fun u v_1 H locs hv_1 pv_1 hP hD hS => ?_)
    have hP : va_P (gD g) vwCl [(aS, .inr (7, [.ref aQ, .ref aSt, .ref aSx, .ref aSy, .int (iI sr), .int (iI sl)])), (aQ, .inr (3, [.int (iI qx), .int (iI qy), .int (iI qhx), .int (iI qhy)])), (aSt, .inl (gI g, 4, .inl (ar st))), (aSx, .inl (gI g, 4, .inl (ar sx))), (aSy, .inl (gI g, 4, .inl (ar sy)))] H := hP
    have hD : va_D A [(aS, .inr (7, [.ref aQ, .ref aSt, .ref aSx, .ref aSy, .int (iI sr), .int (iI sl)])), (aQ, .inr (3, [.int (iI qx), .int (iI qy), .int (iI qhx), .int (iI qhy)])), (aSt, .inl (gI g, 4, .inl (ar st))), (aSx, .inl (gI g, 4, .inl (ar sx))), (aSy, .inl (gI g, 4, .inl (ar sy)))] := hD
    have hv_1 : v_1 = st stp * toSide po - sx stp := hv_1
    refine lv_aload_n hx hb dX4_tryOut_10 rfl (lv_at hl 0 rfl) ?_
    refine lv_iload_n hx hb dX4_tryOut_11 rfl (lv_at hl 1 rfl) ?_
    refine lv_iload_n hx hb dX4_tryOut_12 rfl (lv_at hl 2 rfl) ?_
    refine x_calli (S := Unit) (wc := [(aS, .inr (7, [.ref aQ, .ref aSt, .ref aSx, .ref aSy, .int (iI sr), .int (iI sl)])), (aSt, .inl (gI g, 4, .inl (ar st))), (aSy, .inl (gI g, 4, .inl (ar sy)))]) (wr := [(aQ, .inr (3, [.int (iI qx), .int (iI qy), .int (iI qhx), .int (iI qhy)])), (aSx, .inl (gI g, 4, .inl (ar sx)))]) hC hP hD hS hA [0, 2, 4] [1, 3] [2, 0, 3, 1, 4] rfl rfl (fun hpre => va_runV (As := [.int (iI stp), .int (iI po)]) (rest := [.int (iI v_1), .ref aQ]) ⟨hx, hb, hml, hown, hts⟩ (c_X4_changeY l g H.size aS aQ aSt aSx aSy sr sl stp po st sy (by first | (first | assumption | omega | exact bnd_up (by assumption) (by omega) (by omega)) | fail "q8") (by first | (first | assumption | omega | exact bnd_up (by assumption) (by omega) (by omega)) | fail "q8")) (cwV 2 hts gX4_tryOut_X4_changeY rfl rfl rfl (by decide +kernel) ⟨Nat.le_of_ble_eq_true rfl, Nat.le_of_ble_eq_true rfl⟩) ⟨xB_blind, va_recv hK hP (ci := 7) (q0 := 0) rfl rfl, hpre _⟩ rfl rfl hl.1 rfl (lv_room (Nat.le_of_ble_eq_true rfl)) dX4_tryOut_13 ⟨Nat.le_of_ble_eq_true rfl, Nat.le_of_ble_eq_true rfl⟩) (fun (u : Unit) => [(aS, .inr (7, [.ref aQ, .ref aSt, .ref aSx, .ref aSy, .int (iI sr), .int (iI sl)])), (aQ, .inr (3, [.int (iI qx), .int (iI qy), .int (iI qhx), .int (iI qhy)])), (aSt, .inl (gI g, 4, .inl (ar st))), (aSx, .inl (gI g, 4, .inl (ar sx))), (aSy, .inl (gI g, 4, .inl (ar sy)))]) rfl rfl (by decide) (fun _ => rfl) rfl (fun u v_2 H locs hv_2 pv_2 hP hD hS => ?_)
    have hP : va_P (gD g) vwCl [(aS, .inr (7, [.ref aQ, .ref aSt, .ref aSx, .ref aSy, .int (iI sr), .int (iI sl)])), (aQ, .inr (3, [.int (iI qx), .int (iI qy), .int (iI qhx), .int (iI qhy)])), (aSt, .inl (gI g, 4, .inl (ar st))), (aSx, .inl (gI g, 4, .inl (ar sx))), (aSy, .inl (gI g, 4, .inl (ar sy)))] H := hP
    have hD : va_D A [(aS, .inr (7, [.ref aQ, .ref aSt, .ref aSx, .ref aSy, .int (iI sr), .int (iI sl)])), (aQ, .inr (3, [.int (iI qx), .int (iI qy), .int (iI qhx), .int (iI qhy)])), (aSt, .inl (gI g, 4, .inl (ar st))), (aSx, .inl (gI g, 4, .inl (ar sx))), (aSy, .inl (gI g, 4, .inl (ar sy)))] := hD
    have hv_2 : v_2 = st stp * upward po - sy stp := hv_2
    refine x_callv (S := Unit) (wc := [(aQ, .inr (3, [.int (iI qx), .int (iI qy), .int (iI qhx), .int (iI qhy)]))]) (wr := [(aS, .inr (7, [.ref aQ, .ref aSt, .ref aSx, .ref aSy, .int (iI sr), .int (iI sl)])), (aSt, .inl (gI g, 4, .inl (ar st))), (aSx, .inl (gI g, 4, .inl (ar sx))), (aSy, .inl (gI g, 4, .inl (ar sy)))]) hC hP hD hS hA [1] [0, 2, 3, 4] [0, 4, 1, 2, 3] rfl rfl (fun hpre => va_runV (As := [.int (iI v_1), .int (iI v_2)]) (rest := []) ⟨hx, hb, hml, hown, hts⟩ (c_X0_bend l g H.size aQ qx qy qhx qhy v_1 v_2) (cwV 2 hts gX4_tryOut_X0_bend rfl rfl rfl (by decide +kernel) ⟨Nat.le_of_ble_eq_true rfl, Nat.le_of_ble_eq_true rfl⟩) ⟨xB_blind, va_recv hK hP (ci := 3) (q0 := 1) rfl rfl, hpre _⟩ rfl rfl hl.1 rfl (lv_room (Nat.le_of_ble_eq_true rfl)) dX4_tryOut_16 ⟨Nat.le_of_ble_eq_true rfl, Nat.le_of_ble_eq_true rfl⟩) (fun (u : Unit) => [(aS, .inr (7, [.ref aQ, .ref aSt, .ref aSx, .ref aSy, .int (iI sr), .int (iI sl)])), (aQ, .inr (3, [.int (iI (qx + (qhx + v_1))), .int (iI (qy + (qhy + v_2))), .int (iI (qhx + v_1)), .int (iI (qhy + v_2))])), (aSt, .inl (gI g, 4, .inl (ar st))), (aSx, .inl (gI g, 4, .inl (ar sx))), (aSy, .inl (gI g, 4, .inl (ar sy)))]) rfl rfl (by decide) (fun _ => rfl) rfl (fun u H locs hv_3 hP hD hS => ?_)
    have hP : va_P (gD g) vwCl [(aS, .inr (7, [.ref aQ, .ref aSt, .ref aSx, .ref aSy, .int (iI sr), .int (iI sl)])), (aQ, .inr (3, [.int (iI (qx + (qhx + v_1))), .int (iI (qy + (qhy + v_2))), .int (iI (qhx + v_1)), .int (iI (qhy + v_2))])), (aSt, .inl (gI g, 4, .inl (ar st))), (aSx, .inl (gI g, 4, .inl (ar sx))), (aSy, .inl (gI g, 4, .inl (ar sy)))] H := hP
    have hD : va_D A [(aS, .inr (7, [.ref aQ, .ref aSt, .ref aSx, .ref aSy, .int (iI sr), .int (iI sl)])), (aQ, .inr (3, [.int (iI (qx + (qhx + v_1))), .int (iI (qy + (qhy + v_2))), .int (iI (qhx + v_1)), .int (iI (qhy + v_2))])), (aSt, .inl (gI g, 4, .inl (ar st))), (aSx, .inl (gI g, 4, .inl (ar sx))), (aSy, .inl (gI g, 4, .inl (ar sy)))] := hD
    have q_4 : (qx + (qhx + (st stp * toSide po - sx stp))) = (qx + (qhx + v_1)) := by
      first
      | (
         first | rfl | omega | (subst_vars; first | rfl | omega))
      | fail "q9"
    have q_5 : (qy + (qhy + (st stp * upward po - sy stp))) = (qy + (qhy + v_2)) := by
      first
      | (
         first | rfl | omega | (subst_vars; first | rfl | omega))
      | fail "q9"
    have q_6 : (qhx + (st stp * toSide po - sx stp)) = (qhx + v_1) := by
      first
      | (
         first | rfl | omega | (subst_vars; first | rfl | omega))
      | fail "q9"
    have q_7 : (qhy + (st stp * upward po - sy stp)) = (qhy + v_2) := by
      first
      | (
         first | rfl | omega | (subst_vars; first | rfl | omega))
      | fail "q9"
    have hw_8 := (congr (congr (congr (congrArg (fun (z0 : Int) (z1 : Int) (z2 : Int) (z3 : Int) => ([(aS, .inr (7, [.ref aQ, .ref aSt, .ref aSx, .ref aSy, .int (iI sr), .int (iI sl)])), (aQ, .inr (3, [.int (iI z0), .int (iI z1), .int (iI z2), .int (iI z3)])), (aSt, .inl (gI g, 4, .inl (ar st))), (aSx, .inl (gI g, 4, .inl (ar sx))), (aSy, .inl (gI g, 4, .inl (ar sy)))] : va_W)) q_4.symm) q_5.symm) q_6.symm) q_7.symm)
    rw [hQ9]
    exact x_vret hx hb hr hlocks hP hD hS (S := Unit) (Φ := _) (W1 := _) dX4_tryOut_19 () trivial hw_8 (Nat.le_of_ble_eq_true rfl) (Nat.le_of_ble_eq_true rfl)
  rw [hH, hlo, hQ9] at goal_
  exact goal_

set_option maxHeartbeats 4000000 in
set_option maxRecDepth 100000 in
theorem c_X4_takeBack (l : Launch) (g : xg) (sz : Nat) (aS aQ aSt aSx aSy : Nat) (sr sl qx qy qhx qhy stp po : Int) (st sx sy : Int → Int) (hstp : 0 ≤ stp ∧ stp < 4) (hpo : 0 ≤ po ∧ po ≤ 7) : Met l yX4_takeBack wsX4_takeBack { frames := 1, cells := 0, slots := 0, locals := 22 } (va_Pc [.ref aS, .int (iI stp), .int (iI po)] (xB g [(aS, .inr (7, [.ref aQ, .ref aSt, .ref aSx, .ref aSy, .int (iI sr), .int (iI sl)])), (aQ, .inr (3, [.int (iI qx), .int (iI qy), .int (iI qhx), .int (iI qhy)])), (aSt, .inl (gI g, 4, .inl (ar st))), (aSx, .inl (gI g, 4, .inl (ar sx))), (aSy, .inl (gI g, 4, .inl (ar sy)))] sz)) (va_Qv (fun (u : Unit) => True) (fun u t => xE g (va_A [(aS, .inr (7, [.ref aQ, .ref aSt, .ref aSx, .ref aSy, .int (iI sr), .int (iI sl)])), (aQ, .inr (3, [.int (iI qx), .int (iI qy), .int (iI qhx), .int (iI qhy)])), (aSt, .inl (gI g, 4, .inl (ar st))), (aSx, .inl (gI g, 4, .inl (ar sx))), (aSy, .inl (gI g, 4, .inl (ar sy)))] sz) ((fun (u : Unit) => [(aS, .inr (7, [.ref aQ, .ref aSt, .ref aSx, .ref aSy, .int (iI sr), .int (iI sl)])), (aQ, .inr (3, [.int (iI (qx - qhx)), .int (iI (qy - qhy)), .int (iI (qhx - (st stp * toSide po - sx stp))), .int (iI (qhy - (st stp * upward po - sy stp)))])), (aSt, .inl (gI g, 4, .inl (ar st))), (aSx, .inl (gI g, 4, .inl (ar sx))), (aSy, .inl (gI g, 4, .inl (ar sy)))]) u) t) (va_A [(aS, .inr (7, [.ref aQ, .ref aSt, .ref aSx, .ref aSy, .int (iI sr), .int (iI sl)])), (aQ, .inr (3, [.int (iI qx), .int (iI qy), .int (iI qhx), .int (iI qhy)])), (aSt, .inl (gI g, 4, .inl (ar st))), (aSx, .inl (gI g, 4, .inl (ar sx))), (aSy, .inl (gI g, 4, .inl (ar sy)))] sz)) 0 0 (va_A [(aS, .inr (7, [.ref aQ, .ref aSt, .ref aSx, .ref aSy, .int (iI sr), .int (iI sl)])), (aQ, .inr (3, [.int (iI qx), .int (iI qy), .int (iI qhx), .int (iI qhy)])), (aSt, .inl (gI g, 4, .inl (ar st))), (aSx, .inl (gI g, 4, .inl (ar sx))), (aSy, .inl (gI g, 4, .inl (ar sy)))] sz) := by
  refine x_enter (y := yX4_takeBack) (ws := wsX4_takeBack) (g := g) (sz := sz) (av := [.ref aS, .int (iI stp), .int (iI po)]) (WS := [(aS, .inr (7, [.ref aQ, .ref aSt, .ref aSx, .ref aSy, .int (iI sr), .int (iI sl)])), (aQ, .inr (3, [.int (iI qx), .int (iI qy), .int (iI qhx), .int (iI qhy)])), (aSt, .inl (gI g, 4, .inl (ar st))), (aSx, .inl (gI g, 4, .inl (ar sx))), (aSy, .inl (gI g, 4, .inl (ar sy)))]) (cc := cX4_takeBack) (maxL := 3) (ret := none) (Qc := (fun A => (va_Qv (fun (u : Unit) => True) (fun u t => xE g A ((fun (u : Unit) => [(aS, .inr (7, [.ref aQ, .ref aSt, .ref aSx, .ref aSy, .int (iI sr), .int (iI sl)])), (aQ, .inr (3, [.int (iI (qx - qhx)), .int (iI (qy - qhy)), .int (iI (qhx - (st stp * toSide po - sx stp))), .int (iI (qhy - (st stp * upward po - sy stp)))])), (aSt, .inl (gI g, 4, .inl (ar st))), (aSx, .inl (gI g, 4, .inl (ar sx))), (aSy, .inl (gI g, 4, .inl (ar sy)))]) u) t) A))) (by decide) rfl (Nat.le_of_ble_eq_true rfl) ?_
  intro p e s m args below meth c A ls hx hb hr hml hown hts hlocks hname hC hP hD hS hA hl
  have hK := hC.1
  have hown : s.vm.findClass RX4 = some m.cls := hown
  have hin4 : ∀ w ∈ u_ws RX4 TX4 6, w ∈ wsX4_takeBack := by decide +kernel
  have hl : lv_has ls 3 [(0, .ref aS), (1, .int (iI stp)), (2, .int (iI po))] := hl
  obtain ⟨H, hH⟩ : ∃ z, z = s.heap := ⟨_, rfl⟩
  obtain ⟨locs, hlo⟩ : ∃ z : List Loc, z = [] := ⟨_, rfl⟩
  obtain ⟨Q9, hQ9⟩ : ∃ z, z = MQ below (va_Qv (fun (u : Unit) => True) (fun u t => xE g A ((fun (u : Unit) => [(aS, .inr (7, [.ref aQ, .ref aSt, .ref aSx, .ref aSy, .int (iI sr), .int (iI sl)])), (aQ, .inr (3, [.int (iI (qx - qhx)), .int (iI (qy - qhy)), .int (iI (qhx - (st stp * toSide po - sx stp))), .int (iI (qhy - (st stp * upward po - sy stp)))])), (aSt, .inl (gI g, 4, .inl (ar st))), (aSx, .inl (gI g, 4, .inl (ar sx))), (aSy, .inl (gI g, 4, .inl (ar sy)))]) u) t) A) args s 0 0 A := ⟨_, rfl⟩
  have hP : va_P (gD g) vwCl [(aS, .inr (7, [.ref aQ, .ref aSt, .ref aSx, .ref aSy, .int (iI sr), .int (iI sl)])), (aQ, .inr (3, [.int (iI qx), .int (iI qy), .int (iI qhx), .int (iI qhy)])), (aSt, .inl (gI g, 4, .inl (ar st))), (aSx, .inl (gI g, 4, .inl (ar sx))), (aSy, .inl (gI g, 4, .inl (ar sy)))] H := by rw [hH]; exact hP
  have hS : va_S A s.heap H locs := by rw [hH, hlo]; exact hS
  have goal_ : W p l e { frames := 1, cells := 0, slots := 0, locals := 22 } s m args below meth c H locs 0 0 Q9 (F0 m 0 ls []) := by
    clear hH hlo
    refine lv_aload_n hx hb dX4_takeBack_0 rfl (lv_at hl 0 rfl) ?_
    refine va_get (D := gD g) (ci := 7) (v := .ref aQ) (C := RX4) (T := TX4) (N := 6) hx hb hts hin4 hown hK hP 0 rfl rfl 0 (by decide) (hts (.fieldLink RX4 12 "TunnelRing$Search" "gap" "LTunnelRing$Course;") (List.mem_of_getElem? (i := 1) rfl)) (fun _ h9 => h9) rfl dX4_takeBack_1 ?_
    refine lv_aload_n hx hb dX4_takeBack_4 rfl (lv_at hl 0 rfl) ?_
    refine lv_iload_n hx hb dX4_takeBack_5 rfl (lv_at hl 1 rfl) ?_
    refine lv_iload_n hx hb dX4_takeBack_6 rfl (lv_at hl 2 rfl) ?_
    refine x_calli (S := Unit) (wc := [(aS, .inr (7, [.ref aQ, .ref aSt, .ref aSx, .ref aSy, .int (iI sr), .int (iI sl)])), (aSt, .inl (gI g, 4, .inl (ar st))), (aSx, .inl (gI g, 4, .inl (ar sx)))]) (wr := [(aQ, .inr (3, [.int (iI qx), .int (iI qy), .int (iI qhx), .int (iI qhy)])), (aSy, .inl (gI g, 4, .inl (ar sy)))]) hC hP hD hS hA [0, 2, 3] [1, 4] [2, 0, 3, 4, 1] rfl rfl (fun hpre => va_runV (As := [.int (iI stp), .int (iI po)]) (rest := [.ref aQ]) ⟨hx, hb, hml, hown, hts⟩ (c_X4_changeX l g H.size aS aQ aSt aSx aSy sr sl stp po st sx (by first | (first | assumption | omega | exact bnd_up (by assumption) (by omega) (by omega)) | fail "q8") (by first | (first | assumption | omega | exact bnd_up (by assumption) (by omega) (by omega)) | fail "q8")) (cwV 2 hts gX4_takeBack_X4_changeX rfl rfl rfl (by decide +kernel) ⟨Nat.le_of_ble_eq_true rfl, Nat.le_of_ble_eq_true rfl⟩) ⟨xB_blind, va_recv hK hP (ci := 7) (q0 := 0) rfl rfl, hpre _⟩ rfl rfl hl.1 rfl (lv_room (Nat.le_of_ble_eq_true rfl)) dX4_takeBack_7 ⟨Nat.le_of_ble_eq_true rfl, Nat.le_of_ble_eq_true rfl⟩) (fun (u : Unit) => [(aS, .inr (7, [.ref aQ, .ref aSt, .ref aSx, .ref aSy, .int (iI sr), .int (iI sl)])), (aQ, .inr (3, [.int (iI qx), .int (iI qy), .int (iI qhx), .int (iI qhy)])), (aSt, .inl (gI g, 4, .inl (ar st))), (aSx, .inl (gI g, 4, .inl (ar sx))), (aSy, .inl (gI g, 4, .inl (ar sy)))]) rfl rfl (by decide) (fun _ => rfl) rfl (fun u v_1 H locs hv_1 pv_1 hP hD hS => ?_)
    have hP : va_P (gD g) vwCl [(aS, .inr (7, [.ref aQ, .ref aSt, .ref aSx, .ref aSy, .int (iI sr), .int (iI sl)])), (aQ, .inr (3, [.int (iI qx), .int (iI qy), .int (iI qhx), .int (iI qhy)])), (aSt, .inl (gI g, 4, .inl (ar st))), (aSx, .inl (gI g, 4, .inl (ar sx))), (aSy, .inl (gI g, 4, .inl (ar sy)))] H := hP
    have hD : va_D A [(aS, .inr (7, [.ref aQ, .ref aSt, .ref aSx, .ref aSy, .int (iI sr), .int (iI sl)])), (aQ, .inr (3, [.int (iI qx), .int (iI qy), .int (iI qhx), .int (iI qhy)])), (aSt, .inl (gI g, 4, .inl (ar st))), (aSx, .inl (gI g, 4, .inl (ar sx))), (aSy, .inl (gI g, 4, .inl (ar sy)))] := hD
    have hv_1 : v_1 = st stp * toSide po - sx stp := hv_1
    refine lv_aload_n hx hb dX4_takeBack_10 rfl (lv_at hl 0 rfl) ?_
    refine lv_iload_n hx hb dX4_takeBack_11 rfl (lv_at hl 1 rfl) ?_
    refine lv_iload_n hx hb dX4_takeBack_12 rfl (lv_at hl 2 rfl) ?_
    refine x_calli (S := Unit) (wc := [(aS, .inr (7, [.ref aQ, .ref aSt, .ref aSx, .ref aSy, .int (iI sr), .int (iI sl)])), (aSt, .inl (gI g, 4, .inl (ar st))), (aSy, .inl (gI g, 4, .inl (ar sy)))]) (wr := [(aQ, .inr (3, [.int (iI qx), .int (iI qy), .int (iI qhx), .int (iI qhy)])), (aSx, .inl (gI g, 4, .inl (ar sx)))]) hC hP hD hS hA [0, 2, 4] [1, 3] [2, 0, 3, 1, 4] rfl rfl (fun hpre => va_runV (As := [.int (iI stp), .int (iI po)]) (rest := [.int (iI v_1), .ref aQ]) ⟨hx, hb, hml, hown, hts⟩ (c_X4_changeY l g H.size aS aQ aSt aSx aSy sr sl stp po st sy (by first | (first | assumption | omega | exact bnd_up (by assumption) (by omega) (by omega)) | fail "q8") (by first | (first | assumption | omega | exact bnd_up (by assumption) (by omega) (by omega)) | fail "q8")) (cwV 2 hts gX4_takeBack_X4_changeY rfl rfl rfl (by decide +kernel) ⟨Nat.le_of_ble_eq_true rfl, Nat.le_of_ble_eq_true rfl⟩) ⟨xB_blind, va_recv hK hP (ci := 7) (q0 := 0) rfl rfl, hpre _⟩ rfl rfl hl.1 rfl (lv_room (Nat.le_of_ble_eq_true rfl)) dX4_takeBack_13 ⟨Nat.le_of_ble_eq_true rfl, Nat.le_of_ble_eq_true rfl⟩) (fun (u : Unit) => [(aS, .inr (7, [.ref aQ, .ref aSt, .ref aSx, .ref aSy, .int (iI sr), .int (iI sl)])), (aQ, .inr (3, [.int (iI qx), .int (iI qy), .int (iI qhx), .int (iI qhy)])), (aSt, .inl (gI g, 4, .inl (ar st))), (aSx, .inl (gI g, 4, .inl (ar sx))), (aSy, .inl (gI g, 4, .inl (ar sy)))]) rfl rfl (by decide) (fun _ => rfl) rfl (fun u v_2 H locs hv_2 pv_2 hP hD hS => ?_)
    have hP : va_P (gD g) vwCl [(aS, .inr (7, [.ref aQ, .ref aSt, .ref aSx, .ref aSy, .int (iI sr), .int (iI sl)])), (aQ, .inr (3, [.int (iI qx), .int (iI qy), .int (iI qhx), .int (iI qhy)])), (aSt, .inl (gI g, 4, .inl (ar st))), (aSx, .inl (gI g, 4, .inl (ar sx))), (aSy, .inl (gI g, 4, .inl (ar sy)))] H := hP
    have hD : va_D A [(aS, .inr (7, [.ref aQ, .ref aSt, .ref aSx, .ref aSy, .int (iI sr), .int (iI sl)])), (aQ, .inr (3, [.int (iI qx), .int (iI qy), .int (iI qhx), .int (iI qhy)])), (aSt, .inl (gI g, 4, .inl (ar st))), (aSx, .inl (gI g, 4, .inl (ar sx))), (aSy, .inl (gI g, 4, .inl (ar sy)))] := hD
    have hv_2 : v_2 = st stp * upward po - sy stp := hv_2
    refine x_callv (S := Unit) (wc := [(aQ, .inr (3, [.int (iI qx), .int (iI qy), .int (iI qhx), .int (iI qhy)]))]) (wr := [(aS, .inr (7, [.ref aQ, .ref aSt, .ref aSx, .ref aSy, .int (iI sr), .int (iI sl)])), (aSt, .inl (gI g, 4, .inl (ar st))), (aSx, .inl (gI g, 4, .inl (ar sx))), (aSy, .inl (gI g, 4, .inl (ar sy)))]) hC hP hD hS hA [1] [0, 2, 3, 4] [0, 4, 1, 2, 3] rfl rfl (fun hpre => va_runV (As := [.int (iI v_1), .int (iI v_2)]) (rest := []) ⟨hx, hb, hml, hown, hts⟩ (c_X0_unbend l g H.size aQ qx qy qhx qhy v_1 v_2) (cwV 2 hts gX4_takeBack_X0_unbend rfl rfl rfl (by decide +kernel) ⟨Nat.le_of_ble_eq_true rfl, Nat.le_of_ble_eq_true rfl⟩) ⟨xB_blind, va_recv hK hP (ci := 3) (q0 := 1) rfl rfl, hpre _⟩ rfl rfl hl.1 rfl (lv_room (Nat.le_of_ble_eq_true rfl)) dX4_takeBack_16 ⟨Nat.le_of_ble_eq_true rfl, Nat.le_of_ble_eq_true rfl⟩) (fun (u : Unit) => [(aS, .inr (7, [.ref aQ, .ref aSt, .ref aSx, .ref aSy, .int (iI sr), .int (iI sl)])), (aQ, .inr (3, [.int (iI (qx - qhx)), .int (iI (qy - qhy)), .int (iI (qhx - v_1)), .int (iI (qhy - v_2))])), (aSt, .inl (gI g, 4, .inl (ar st))), (aSx, .inl (gI g, 4, .inl (ar sx))), (aSy, .inl (gI g, 4, .inl (ar sy)))]) rfl rfl (by decide) (fun _ => rfl) rfl (fun u H locs hv_3 hP hD hS => ?_)
    have hP : va_P (gD g) vwCl [(aS, .inr (7, [.ref aQ, .ref aSt, .ref aSx, .ref aSy, .int (iI sr), .int (iI sl)])), (aQ, .inr (3, [.int (iI (qx - qhx)), .int (iI (qy - qhy)), .int (iI (qhx - v_1)), .int (iI (qhy - v_2))])), (aSt, .inl (gI g, 4, .inl (ar st))), (aSx, .inl (gI g, 4, .inl (ar sx))), (aSy, .inl (gI g, 4, .inl (ar sy)))] H := hP
    have hD : va_D A [(aS, .inr (7, [.ref aQ, .ref aSt, .ref aSx, .ref aSy, .int (iI sr), .int (iI sl)])), (aQ, .inr (3, [.int (iI (qx - qhx)), .int (iI (qy - qhy)), .int (iI (qhx - v_1)), .int (iI (qhy - v_2))])), (aSt, .inl (gI g, 4, .inl (ar st))), (aSx, .inl (gI g, 4, .inl (ar sx))), (aSy, .inl (gI g, 4, .inl (ar sy)))] := hD
    have q_4 : (qhx - (st stp * toSide po - sx stp)) = (qhx - v_1) := by
      first
      | (
         first | rfl | omega | (subst_vars; first | rfl | omega))
      | fail "q9"
    have q_5 : (qhy - (st stp * upward po - sy stp)) = (qhy - v_2) := by
      first
      | (
         first | rfl | omega | (subst_vars; first | rfl | omega))
      | fail "q9"
    have hw_6 := (congr (congrArg (fun (z0 : Int) (z1 : Int) => ([(aS, .inr (7, [.ref aQ, .ref aSt, .ref aSx, .ref aSy, .int (iI sr), .int (iI sl)])), (aQ, .inr (3, [.int (iI (qx - qhx)), .int (iI (qy - qhy)), .int (iI z0), .int (iI z1)])), (aSt, .inl (gI g, 4, .inl (ar st))), (aSx, .inl (gI g, 4, .inl (ar sx))), (aSy, .inl (gI g, 4, .inl (ar sy)))] : va_W)) q_4.symm) q_5.symm)
    rw [hQ9]
    exact x_vret hx hb hr hlocks hP hD hS (S := Unit) (Φ := _) (W1 := _) dX4_takeBack_19 () trivial hw_6 (Nat.le_of_ble_eq_true rfl) (Nat.le_of_ble_eq_true rfl)
  rw [hH, hlo, hQ9] at goal_
  exact goal_

set_option maxHeartbeats 4000000 in
set_option maxRecDepth 100000 in
theorem c_X4_deviation (l : Launch) (g : xg) (sz : Nat) (aS aQ aSt aSx aSy : Nat) (sr sl qx qy qhx qhy : Int) (hqx : -100000000 ≤ qx ∧ qx ≤ 100000000) (hqy : -100000000 ≤ qy ∧ qy ≤ 100000000) : Met l yX4_deviation wsX4_deviation { frames := 1, cells := 0, slots := 0, locals := 22 } (va_Pc [.ref aS] (xB g [(aS, .inr (7, [.ref aQ, .ref aSt, .ref aSx, .ref aSy, .int (iI sr), .int (iI sl)])), (aQ, .inr (3, [.int (iI qx), .int (iI qy), .int (iI qhx), .int (iI qhy)]))] sz)) (va_Qi (fun r u => r = iI ((fun (u : Unit) => aI qx + aI qy) u) ∧ (fun (u : Unit) => 0 ≤ (aI qx + aI qy) ∧ (aI qx + aI qy) ≤ 200000000) u) (fun u t => xE g (va_A [(aS, .inr (7, [.ref aQ, .ref aSt, .ref aSx, .ref aSy, .int (iI sr), .int (iI sl)])), (aQ, .inr (3, [.int (iI qx), .int (iI qy), .int (iI qhx), .int (iI qhy)]))] sz) ((fun (u : Unit) => [(aS, .inr (7, [.ref aQ, .ref aSt, .ref aSx, .ref aSy, .int (iI sr), .int (iI sl)])), (aQ, .inr (3, [.int (iI qx), .int (iI qy), .int (iI qhx), .int (iI qhy)]))]) u) t) (va_A [(aS, .inr (7, [.ref aQ, .ref aSt, .ref aSx, .ref aSy, .int (iI sr), .int (iI sl)])), (aQ, .inr (3, [.int (iI qx), .int (iI qy), .int (iI qhx), .int (iI qhy)]))] sz)) 0 0 (va_A [(aS, .inr (7, [.ref aQ, .ref aSt, .ref aSx, .ref aSy, .int (iI sr), .int (iI sl)])), (aQ, .inr (3, [.int (iI qx), .int (iI qy), .int (iI qhx), .int (iI qhy)]))] sz) := by
  refine x_enter (y := yX4_deviation) (ws := wsX4_deviation) (g := g) (sz := sz) (av := [.ref aS]) (WS := [(aS, .inr (7, [.ref aQ, .ref aSt, .ref aSx, .ref aSy, .int (iI sr), .int (iI sl)])), (aQ, .inr (3, [.int (iI qx), .int (iI qy), .int (iI qhx), .int (iI qhy)]))]) (cc := cX4_deviation) (maxL := 1) (ret := some .int) (Qc := (fun A => (va_Qi (fun r u => r = iI ((fun (u : Unit) => aI qx + aI qy) u) ∧ (fun (u : Unit) => 0 ≤ (aI qx + aI qy) ∧ (aI qx + aI qy) ≤ 200000000) u) (fun u t => xE g A ((fun (u : Unit) => [(aS, .inr (7, [.ref aQ, .ref aSt, .ref aSx, .ref aSy, .int (iI sr), .int (iI sl)])), (aQ, .inr (3, [.int (iI qx), .int (iI qy), .int (iI qhx), .int (iI qhy)]))]) u) t) A))) (by decide) rfl (Nat.le_of_ble_eq_true rfl) ?_
  intro p e s m args below meth c A ls hx hb hr hml hown hts hlocks hname hC hP hD hS hA hl
  have hK := hC.1
  have hown : s.vm.findClass RX4 = some m.cls := hown
  have hin0 : ∀ w ∈ u_ws RX0 TX0 4, w ∈ wsX4_deviation := by decide +kernel
  have hin4 : ∀ w ∈ u_ws RX4 TX4 6, w ∈ wsX4_deviation := by decide +kernel
  have hl : lv_has ls 1 [(0, .ref aS)] := hl
  obtain ⟨H, hH⟩ : ∃ z, z = s.heap := ⟨_, rfl⟩
  obtain ⟨locs, hlo⟩ : ∃ z : List Loc, z = [] := ⟨_, rfl⟩
  obtain ⟨Q9, hQ9⟩ : ∃ z, z = MQ below (va_Qi (fun r u => r = iI ((fun (u : Unit) => aI qx + aI qy) u) ∧ (fun (u : Unit) => 0 ≤ (aI qx + aI qy) ∧ (aI qx + aI qy) ≤ 200000000) u) (fun u t => xE g A ((fun (u : Unit) => [(aS, .inr (7, [.ref aQ, .ref aSt, .ref aSx, .ref aSy, .int (iI sr), .int (iI sl)])), (aQ, .inr (3, [.int (iI qx), .int (iI qy), .int (iI qhx), .int (iI qhy)]))]) u) t) A) args s 0 0 A := ⟨_, rfl⟩
  have hP : va_P (gD g) vwCl [(aS, .inr (7, [.ref aQ, .ref aSt, .ref aSx, .ref aSy, .int (iI sr), .int (iI sl)])), (aQ, .inr (3, [.int (iI qx), .int (iI qy), .int (iI qhx), .int (iI qhy)]))] H := by rw [hH]; exact hP
  have hS : va_S A s.heap H locs := by rw [hH, hlo]; exact hS
  have goal_ : W p l e { frames := 1, cells := 0, slots := 0, locals := 22 } s m args below meth c H locs 0 0 Q9 (F0 m 0 ls []) := by
    clear hH hlo
    refine lv_aload_n hx hb dX4_deviation_0 rfl (lv_at hl 0 rfl) ?_
    refine va_get (D := gD g) (ci := 7) (v := .ref aQ) (C := RX4) (T := TX4) (N := 6) hx hb hts hin4 hown hK hP 0 rfl rfl 0 (by decide) (hts (.fieldLink RX4 12 "TunnelRing$Search" "gap" "LTunnelRing$Course;") (List.mem_of_getElem? (i := 1) rfl)) (fun _ h9 => h9) rfl dX4_deviation_1 ?_
    refine va_get (D := gD g) (ci := 3) (v := .int (iI qx)) (C := RX0) (T := TX0) (N := 4) hx hb hts hin0 hown hK hP 1 rfl rfl 0 (by decide) (hts (.fieldLink RX4 28 "TunnelRing$Course" "x" "I") (List.mem_of_getElem? (i := 2) rfl)) (fun _ h9 => h9) rfl dX4_deviation_4 ?_
    refine x_abs hx hb (hml.trans hl.1.symm) hown (hts (.methodLink RX4 68 Lib.Math.abs.name) (List.mem_of_getElem? (i := 3) rfl)) (hts (.static Lib.Math.abs.name) (List.mem_of_getElem? (i := 4) rfl)) (hts (.initialized "java/lang/Math") (List.mem_of_getElem? (i := 5) rfl)) (hts (.code Lib.Math.abs.name Lib.Math.abs.code 1 (some .int)) (List.mem_of_getElem? (i := 6) rfl)) (Nat.le_of_ble_eq_true rfl) (Nat.le_of_ble_eq_true rfl) (Nat.le_of_ble_eq_true rfl) (Nat.le_of_ble_eq_true rfl) (by omega) dX4_deviation_7 (fun v_1 hv_1 => ?_)
    have bv_1 := aI_r qx hv_1
    refine lv_aload_n hx hb dX4_deviation_10 rfl (lv_at hl 0 rfl) ?_
    refine va_get (D := gD g) (ci := 7) (v := .ref aQ) (C := RX4) (T := TX4) (N := 6) hx hb hts hin4 hown hK hP 0 rfl rfl 0 (by decide) (hts (.fieldLink RX4 12 "TunnelRing$Search" "gap" "LTunnelRing$Course;") (List.mem_of_getElem? (i := 1) rfl)) (fun _ h9 => h9) rfl dX4_deviation_11 ?_
    refine va_get (D := gD g) (ci := 3) (v := .int (iI qy)) (C := RX0) (T := TX0) (N := 4) hx hb hts hin0 hown hK hP 1 rfl rfl 1 (by decide) (hts (.fieldLink RX4 32 "TunnelRing$Course" "y" "I") (List.mem_of_getElem? (i := 7) rfl)) (fun _ h9 => h9) rfl dX4_deviation_14 ?_
    refine x_abs hx hb (hml.trans hl.1.symm) hown (hts (.methodLink RX4 68 Lib.Math.abs.name) (List.mem_of_getElem? (i := 3) rfl)) (hts (.static Lib.Math.abs.name) (List.mem_of_getElem? (i := 4) rfl)) (hts (.initialized "java/lang/Math") (List.mem_of_getElem? (i := 5) rfl)) (hts (.code Lib.Math.abs.name Lib.Math.abs.code 1 (some .int)) (List.mem_of_getElem? (i := 6) rfl)) (Nat.le_of_ble_eq_true rfl) (Nat.le_of_ble_eq_true rfl) (Nat.le_of_ble_eq_true rfl) (Nat.le_of_ble_eq_true rfl) (by omega) dX4_deviation_17 (fun v_2 hv_2 => ?_)
    have bv_2 := aI_r qy hv_2
    refine x_iadd hx hb dX4_deviation_20 ?_
    rw [hQ9]
    exact x_iret hx hb hr hlocks hP hD hS (S := Unit) rfl dX4_deviation_21 () (by
        first
        | (
           first | rfl | omega | (subst_vars; first | rfl | omega))
        | fail "q9") (by
        first
        | (
           have h1 := aI_r qx rfl
           have h2 := aI_r qy rfl
           omega)
        | fail "q9") rfl (Nat.le_of_ble_eq_true rfl) (Nat.le_of_ble_eq_true rfl)
  rw [hH, hlo, hQ9] at goal_
  exact goal_

set_option maxHeartbeats 4000000 in
set_option maxRecDepth 100000 in
theorem c_X4_deviationIn (l : Launch) (g : xg) (sz : Nat) (aS aQ aSt aSx aSy : Nat) (sr sl qx qy qhx qhy po : Int) (st sx sy : Int → Int) (hpo : 0 ≤ po ∧ po ≤ 7) (hqx : -1000000 ≤ qx ∧ qx ≤ 1000000) (hqy : -1000000 ≤ qy ∧ qy ≤ 1000000) (hqhx : -10000 ≤ qhx ∧ qhx ≤ 10000) (hqhy : -10000 ≤ qhy ∧ qhy ≤ 10000) (hst : 0 ≤ st 0 ∧ st 0 ≤ 9) (hsx : -5 ≤ sx 0 ∧ sx 0 ≤ 5) (hsy : -5 ≤ sy 0 ∧ sy 0 ≤ 5) : Met l yX4_deviationIn wsX4_deviationIn { frames := 2, cells := 0, slots := 0, locals := 44 } (va_Pc [.ref aS, .int (iI po)] (xB g [(aS, .inr (7, [.ref aQ, .ref aSt, .ref aSx, .ref aSy, .int (iI sr), .int (iI sl)])), (aQ, .inr (3, [.int (iI qx), .int (iI qy), .int (iI qhx), .int (iI qhy)])), (aSt, .inl (gI g, 4, .inl (ar st))), (aSx, .inl (gI g, 4, .inl (ar sx))), (aSy, .inl (gI g, 4, .inl (ar sy)))] sz)) (va_Qi (fun r u => r = iI ((fun (u : Unit) => aI (qx + (qhx + (st 0 * toSide po - sx 0))) + aI (qy + (qhy + (st 0 * upward po - sy 0)))) u) ∧ (fun (u : Unit) => 0 ≤ (aI (qx + (qhx + (st 0 * toSide po - sx 0))) + aI (qy + (qhy + (st 0 * upward po - sy 0)))) ∧ (aI (qx + (qhx + (st 0 * toSide po - sx 0))) + aI (qy + (qhy + (st 0 * upward po - sy 0)))) ≤ 200000000) u) (fun u t => xE g (va_A [(aS, .inr (7, [.ref aQ, .ref aSt, .ref aSx, .ref aSy, .int (iI sr), .int (iI sl)])), (aQ, .inr (3, [.int (iI qx), .int (iI qy), .int (iI qhx), .int (iI qhy)])), (aSt, .inl (gI g, 4, .inl (ar st))), (aSx, .inl (gI g, 4, .inl (ar sx))), (aSy, .inl (gI g, 4, .inl (ar sy)))] sz) ((fun (u : Unit) => [(aS, .inr (7, [.ref aQ, .ref aSt, .ref aSx, .ref aSy, .int (iI sr), .int (iI sl)])), (aQ, .inr (3, [.int (iI qx), .int (iI qy), .int (iI qhx), .int (iI qhy)])), (aSt, .inl (gI g, 4, .inl (ar st))), (aSx, .inl (gI g, 4, .inl (ar sx))), (aSy, .inl (gI g, 4, .inl (ar sy)))]) u) t) (va_A [(aS, .inr (7, [.ref aQ, .ref aSt, .ref aSx, .ref aSy, .int (iI sr), .int (iI sl)])), (aQ, .inr (3, [.int (iI qx), .int (iI qy), .int (iI qhx), .int (iI qhy)])), (aSt, .inl (gI g, 4, .inl (ar st))), (aSx, .inl (gI g, 4, .inl (ar sx))), (aSy, .inl (gI g, 4, .inl (ar sy)))] sz)) 0 0 (va_A [(aS, .inr (7, [.ref aQ, .ref aSt, .ref aSx, .ref aSy, .int (iI sr), .int (iI sl)])), (aQ, .inr (3, [.int (iI qx), .int (iI qy), .int (iI qhx), .int (iI qhy)])), (aSt, .inl (gI g, 4, .inl (ar st))), (aSx, .inl (gI g, 4, .inl (ar sx))), (aSy, .inl (gI g, 4, .inl (ar sy)))] sz) := by
  refine x_enter (y := yX4_deviationIn) (ws := wsX4_deviationIn) (g := g) (sz := sz) (av := [.ref aS, .int (iI po)]) (WS := [(aS, .inr (7, [.ref aQ, .ref aSt, .ref aSx, .ref aSy, .int (iI sr), .int (iI sl)])), (aQ, .inr (3, [.int (iI qx), .int (iI qy), .int (iI qhx), .int (iI qhy)])), (aSt, .inl (gI g, 4, .inl (ar st))), (aSx, .inl (gI g, 4, .inl (ar sx))), (aSy, .inl (gI g, 4, .inl (ar sy)))]) (cc := cX4_deviationIn) (maxL := 3) (ret := some .int) (Qc := (fun A => (va_Qi (fun r u => r = iI ((fun (u : Unit) => aI (qx + (qhx + (st 0 * toSide po - sx 0))) + aI (qy + (qhy + (st 0 * upward po - sy 0)))) u) ∧ (fun (u : Unit) => 0 ≤ (aI (qx + (qhx + (st 0 * toSide po - sx 0))) + aI (qy + (qhy + (st 0 * upward po - sy 0)))) ∧ (aI (qx + (qhx + (st 0 * toSide po - sx 0))) + aI (qy + (qhy + (st 0 * upward po - sy 0)))) ≤ 200000000) u) (fun u t => xE g A ((fun (u : Unit) => [(aS, .inr (7, [.ref aQ, .ref aSt, .ref aSx, .ref aSy, .int (iI sr), .int (iI sl)])), (aQ, .inr (3, [.int (iI qx), .int (iI qy), .int (iI qhx), .int (iI qhy)])), (aSt, .inl (gI g, 4, .inl (ar st))), (aSx, .inl (gI g, 4, .inl (ar sx))), (aSy, .inl (gI g, 4, .inl (ar sy)))]) u) t) A))) (by decide) rfl (Nat.le_of_ble_eq_true rfl) ?_
  intro p e s m args below meth c A ls hx hb hr hml hown hts hlocks hname hC hP hD hS hA hl
  have hK := hC.1
  have hown : s.vm.findClass RX4 = some m.cls := hown
  have hl : lv_has ls 3 [(0, .ref aS), (1, .int (iI po))] := hl
  obtain ⟨H, hH⟩ : ∃ z, z = s.heap := ⟨_, rfl⟩
  obtain ⟨locs, hlo⟩ : ∃ z : List Loc, z = [] := ⟨_, rfl⟩
  obtain ⟨Q9, hQ9⟩ : ∃ z, z = MQ below (va_Qi (fun r u => r = iI ((fun (u : Unit) => aI (qx + (qhx + (st 0 * toSide po - sx 0))) + aI (qy + (qhy + (st 0 * upward po - sy 0)))) u) ∧ (fun (u : Unit) => 0 ≤ (aI (qx + (qhx + (st 0 * toSide po - sx 0))) + aI (qy + (qhy + (st 0 * upward po - sy 0)))) ∧ (aI (qx + (qhx + (st 0 * toSide po - sx 0))) + aI (qy + (qhy + (st 0 * upward po - sy 0)))) ≤ 200000000) u) (fun u t => xE g A ((fun (u : Unit) => [(aS, .inr (7, [.ref aQ, .ref aSt, .ref aSx, .ref aSy, .int (iI sr), .int (iI sl)])), (aQ, .inr (3, [.int (iI qx), .int (iI qy), .int (iI qhx), .int (iI qhy)])), (aSt, .inl (gI g, 4, .inl (ar st))), (aSx, .inl (gI g, 4, .inl (ar sx))), (aSy, .inl (gI g, 4, .inl (ar sy)))]) u) t) A) args s 0 0 A := ⟨_, rfl⟩
  have hP : va_P (gD g) vwCl [(aS, .inr (7, [.ref aQ, .ref aSt, .ref aSx, .ref aSy, .int (iI sr), .int (iI sl)])), (aQ, .inr (3, [.int (iI qx), .int (iI qy), .int (iI qhx), .int (iI qhy)])), (aSt, .inl (gI g, 4, .inl (ar st))), (aSx, .inl (gI g, 4, .inl (ar sx))), (aSy, .inl (gI g, 4, .inl (ar sy)))] H := by rw [hH]; exact hP
  have hS : va_S A s.heap H locs := by rw [hH, hlo]; exact hS
  have goal_ : W p l e { frames := 2, cells := 0, slots := 0, locals := 44 } s m args below meth c H locs 0 0 Q9 (F0 m 0 ls []) := by
    clear hH hlo
    have m1 := mulb (A := 9) (B := 1) (a := st 0) (b := toSide po) (by omega) (toSide_r po)
    have m2 := mulb (A := 9) (B := 1) (a := st 0) (b := upward po) (by omega) (upward_r po)
    refine lv_aload_n hx hb dX4_deviationIn_0 rfl (lv_at hl 0 rfl) ?_
    refine x_iconst hx hb dX4_deviationIn_1 ?_
    refine lv_iload_n hx hb dX4_deviationIn_2 rfl (lv_at hl 1 rfl) ?_
    refine x_callv (S := Unit) (wc := [(aS, .inr (7, [.ref aQ, .ref aSt, .ref aSx, .ref aSy, .int (iI sr), .int (iI sl)])), (aQ, .inr (3, [.int (iI qx), .int (iI qy), .int (iI qhx), .int (iI qhy)])), (aSt, .inl (gI g, 4, .inl (ar st))), (aSx, .inl (gI g, 4, .inl (ar sx))), (aSy, .inl (gI g, 4, .inl (ar sy)))]) (wr := []) hC hP hD hS hA [0, 1, 2, 3, 4] [] [0, 1, 2, 3, 4] rfl rfl (fun hpre => va_runV (As := [.int (iI 0), .int (iI po)]) (rest := []) ⟨hx, hb, hml, hown, hts⟩ (c_X4_tryOut l g H.size aS aQ aSt aSx aSy sr sl qx qy qhx qhy 0 po st sx sy (by first | (first | assumption | omega | exact bnd_up (by assumption) (by omega) (by omega)) | fail "q8") (by first | (first | assumption | omega | exact bnd_up (by assumption) (by omega) (by omega)) | fail "q8")) (cwV 2 hts gX4_deviationIn_X4_tryOut rfl rfl rfl (by decide +kernel) ⟨Nat.le_of_ble_eq_true rfl, Nat.le_of_ble_eq_true rfl⟩) ⟨xB_blind, va_recv hK hP (ci := 7) (q0 := 0) rfl rfl, hpre _⟩ rfl rfl hl.1 rfl (lv_room (Nat.le_of_ble_eq_true rfl)) dX4_deviationIn_3 ⟨Nat.le_of_ble_eq_true rfl, Nat.le_of_ble_eq_true rfl⟩) (fun (u : Unit) => [(aS, .inr (7, [.ref aQ, .ref aSt, .ref aSx, .ref aSy, .int (iI sr), .int (iI sl)])), (aQ, .inr (3, [.int (iI (qx + (qhx + (st 0 * toSide po - sx 0)))), .int (iI (qy + (qhy + (st 0 * upward po - sy 0)))), .int (iI (qhx + (st 0 * toSide po - sx 0))), .int (iI (qhy + (st 0 * upward po - sy 0)))])), (aSt, .inl (gI g, 4, .inl (ar st))), (aSx, .inl (gI g, 4, .inl (ar sx))), (aSy, .inl (gI g, 4, .inl (ar sy)))]) rfl rfl (by decide) (fun _ => rfl) rfl (fun u H locs hv_1 hP hD hS => ?_)
    have hP : va_P (gD g) vwCl [(aS, .inr (7, [.ref aQ, .ref aSt, .ref aSx, .ref aSy, .int (iI sr), .int (iI sl)])), (aQ, .inr (3, [.int (iI (qx + (qhx + (st 0 * toSide po - sx 0)))), .int (iI (qy + (qhy + (st 0 * upward po - sy 0)))), .int (iI (qhx + (st 0 * toSide po - sx 0))), .int (iI (qhy + (st 0 * upward po - sy 0)))])), (aSt, .inl (gI g, 4, .inl (ar st))), (aSx, .inl (gI g, 4, .inl (ar sx))), (aSy, .inl (gI g, 4, .inl (ar sy)))] H := hP
    have hD : va_D A [(aS, .inr (7, [.ref aQ, .ref aSt, .ref aSx, .ref aSy, .int (iI sr), .int (iI sl)])), (aQ, .inr (3, [.int (iI (qx + (qhx + (st 0 * toSide po - sx 0)))), .int (iI (qy + (qhy + (st 0 * upward po - sy 0)))), .int (iI (qhx + (st 0 * toSide po - sx 0))), .int (iI (qhy + (st 0 * upward po - sy 0)))])), (aSt, .inl (gI g, 4, .inl (ar st))), (aSx, .inl (gI g, 4, .inl (ar sx))), (aSy, .inl (gI g, 4, .inl (ar sy)))] := hD
    refine lv_aload_n hx hb dX4_deviationIn_6 rfl (lv_at hl 0 rfl) ?_
    refine x_calli (S := Unit) (wc := [(aS, .inr (7, [.ref aQ, .ref aSt, .ref aSx, .ref aSy, .int (iI sr), .int (iI sl)])), (aQ, .inr (3, [.int (iI (qx + (qhx + (st 0 * toSide po - sx 0)))), .int (iI (qy + (qhy + (st 0 * upward po - sy 0)))), .int (iI (qhx + (st 0 * toSide po - sx 0))), .int (iI (qhy + (st 0 * upward po - sy 0)))]))]) (wr := [(aSt, .inl (gI g, 4, .inl (ar st))), (aSx, .inl (gI g, 4, .inl (ar sx))), (aSy, .inl (gI g, 4, .inl (ar sy)))]) hC hP hD hS hA [0, 1] [2, 3, 4] [3, 4, 0, 1, 2] rfl rfl (fun hpre => va_runV (As := []) (rest := []) ⟨hx, hb, hml, hown, hts⟩ (c_X4_deviation l g H.size aS aQ aSt aSx aSy sr sl (qx + (qhx + (st 0 * toSide po - sx 0))) (qy + (qhy + (st 0 * upward po - sy 0))) (qhx + (st 0 * toSide po - sx 0)) (qhy + (st 0 * upward po - sy 0)) (by first | (first | assumption | omega | exact bnd_up (by assumption) (by omega) (by omega)) | fail "q8") (by first | (first | assumption | omega | exact bnd_up (by assumption) (by omega) (by omega)) | fail "q8")) (cwV 0 hts gX4_deviationIn_X4_deviation rfl rfl rfl (by decide +kernel) ⟨Nat.le_of_ble_eq_true rfl, Nat.le_of_ble_eq_true rfl⟩) ⟨xB_blind, va_recv hK hP (ci := 7) (q0 := 0) rfl rfl, hpre _⟩ rfl rfl hl.1 rfl (lv_room (Nat.le_of_ble_eq_true rfl)) dX4_deviationIn_7 ⟨Nat.le_of_ble_eq_true rfl, Nat.le_of_ble_eq_true rfl⟩) (fun (u : Unit) => [(aS, .inr (7, [.ref aQ, .ref aSt, .ref aSx, .ref aSy, .int (iI sr), .int (iI sl)])), (aQ, .inr (3, [.int (iI (qx + (qhx + (st 0 * toSide po - sx 0)))), .int (iI (qy + (qhy + (st 0 * upward po - sy 0)))), .int (iI (qhx + (st 0 * toSide po - sx 0))), .int (iI (qhy + (st 0 * upward po - sy 0)))])), (aSt, .inl (gI g, 4, .inl (ar st))), (aSx, .inl (gI g, 4, .inl (ar sx))), (aSy, .inl (gI g, 4, .inl (ar sy)))]) rfl rfl (by decide) (fun _ => rfl) rfl (fun u v_2 H locs hv_2 pv_2 hP hD hS => ?_)
    have hP : va_P (gD g) vwCl [(aS, .inr (7, [.ref aQ, .ref aSt, .ref aSx, .ref aSy, .int (iI sr), .int (iI sl)])), (aQ, .inr (3, [.int (iI (qx + (qhx + (st 0 * toSide po - sx 0)))), .int (iI (qy + (qhy + (st 0 * upward po - sy 0)))), .int (iI (qhx + (st 0 * toSide po - sx 0))), .int (iI (qhy + (st 0 * upward po - sy 0)))])), (aSt, .inl (gI g, 4, .inl (ar st))), (aSx, .inl (gI g, 4, .inl (ar sx))), (aSy, .inl (gI g, 4, .inl (ar sy)))] H := hP
    have hD : va_D A [(aS, .inr (7, [.ref aQ, .ref aSt, .ref aSx, .ref aSy, .int (iI sr), .int (iI sl)])), (aQ, .inr (3, [.int (iI (qx + (qhx + (st 0 * toSide po - sx 0)))), .int (iI (qy + (qhy + (st 0 * upward po - sy 0)))), .int (iI (qhx + (st 0 * toSide po - sx 0))), .int (iI (qhy + (st 0 * upward po - sy 0)))])), (aSt, .inl (gI g, 4, .inl (ar st))), (aSx, .inl (gI g, 4, .inl (ar sx))), (aSy, .inl (gI g, 4, .inl (ar sy)))] := hD
    have hv_2 : v_2 = aI (qx + (qhx + (st 0 * toSide po - sx 0))) + aI (qy + (qhy + (st 0 * upward po - sy 0))) := hv_2
    have pv_2 : 0 ≤ v_2 ∧ v_2 ≤ 200000000 := by first | exact pv_2 | (rw [hv_2]; exact pv_2)
    refine lv_istore_n (lv' := [(2, .int (iI v_2)), (0, .ref aS), (1, .int (iI po))]) hx hb dX4_deviationIn_10 rfl hl (by decide) rfl (fun ls hl => ?_)
    refine lv_aload_n hx hb dX4_deviationIn_11 rfl (lv_at hl 1 rfl) ?_
    refine x_iconst hx hb dX4_deviationIn_12 ?_
    refine lv_iload_n hx hb dX4_deviationIn_13 rfl (lv_at hl 2 rfl) ?_
    refine x_callv (S := Unit) (wc := [(aS, .inr (7, [.ref aQ, .ref aSt, .ref aSx, .ref aSy, .int (iI sr), .int (iI sl)])), (aQ, .inr (3, [.int (iI (qx + (qhx + (st 0 * toSide po - sx 0)))), .int (iI (qy + (qhy + (st 0 * upward po - sy 0)))), .int (iI (qhx + (st 0 * toSide po - sx 0))), .int (iI (qhy + (st 0 * upward po - sy 0)))])), (aSt, .inl (gI g, 4, .inl (ar st))), (aSx, .inl (gI g, 4, .inl (ar sx))), (aSy, .inl (gI g, 4, .inl (ar sy)))]) (wr := []) hC hP hD hS hA [0, 1, 2, 3, 4] [] [0, 1, 2, 3, 4] rfl rfl (fun hpre => va_runV (As := [.int (iI 0), .int (iI po)]) (rest := []) ⟨hx, hb, hml, hown, hts⟩ (c_X4_takeBack l g H.size aS aQ aSt aSx aSy sr sl (qx + (qhx + (st 0 * toSide po - sx 0))) (qy + (qhy + (st 0 * upward po - sy 0))) (qhx + (st 0 * toSide po - sx 0)) (qhy + (st 0 * upward po - sy 0)) 0 po st sx sy (by first | (first | assumption | omega | exact bnd_up (by assumption) (by omega) (by omega)) | fail "q8") (by first | (first | assumption | omega | exact bnd_up (by assumption) (by omega) (by omega)) | fail "q8")) (cwV 2 hts gX4_deviationIn_X4_takeBack rfl rfl rfl (by decide +kernel) ⟨Nat.le_of_ble_eq_true rfl, Nat.le_of_ble_eq_true rfl⟩) ⟨xB_blind, va_recv hK hP (ci := 7) (q0 := 0) rfl rfl, hpre _⟩ rfl rfl hl.1 rfl (lv_room (Nat.le_of_ble_eq_true rfl)) dX4_deviationIn_14 ⟨Nat.le_of_ble_eq_true rfl, Nat.le_of_ble_eq_true rfl⟩) (fun (u : Unit) => [(aS, .inr (7, [.ref aQ, .ref aSt, .ref aSx, .ref aSy, .int (iI sr), .int (iI sl)])), (aQ, .inr (3, [.int (iI ((qx + (qhx + (st 0 * toSide po - sx 0))) - (qhx + (st 0 * toSide po - sx 0)))), .int (iI ((qy + (qhy + (st 0 * upward po - sy 0))) - (qhy + (st 0 * upward po - sy 0)))), .int (iI ((qhx + (st 0 * toSide po - sx 0)) - (st 0 * toSide po - sx 0))), .int (iI ((qhy + (st 0 * upward po - sy 0)) - (st 0 * upward po - sy 0)))])), (aSt, .inl (gI g, 4, .inl (ar st))), (aSx, .inl (gI g, 4, .inl (ar sx))), (aSy, .inl (gI g, 4, .inl (ar sy)))]) rfl rfl (by decide) (fun _ => rfl) rfl (fun u H locs hv_3 hP hD hS => ?_)
    have hP : va_P (gD g) vwCl [(aS, .inr (7, [.ref aQ, .ref aSt, .ref aSx, .ref aSy, .int (iI sr), .int (iI sl)])), (aQ, .inr (3, [.int (iI ((qx + (qhx + (st 0 * toSide po - sx 0))) - (qhx + (st 0 * toSide po - sx 0)))), .int (iI ((qy + (qhy + (st 0 * upward po - sy 0))) - (qhy + (st 0 * upward po - sy 0)))), .int (iI ((qhx + (st 0 * toSide po - sx 0)) - (st 0 * toSide po - sx 0))), .int (iI ((qhy + (st 0 * upward po - sy 0)) - (st 0 * upward po - sy 0)))])), (aSt, .inl (gI g, 4, .inl (ar st))), (aSx, .inl (gI g, 4, .inl (ar sx))), (aSy, .inl (gI g, 4, .inl (ar sy)))] H := hP
    have hD : va_D A [(aS, .inr (7, [.ref aQ, .ref aSt, .ref aSx, .ref aSy, .int (iI sr), .int (iI sl)])), (aQ, .inr (3, [.int (iI ((qx + (qhx + (st 0 * toSide po - sx 0))) - (qhx + (st 0 * toSide po - sx 0)))), .int (iI ((qy + (qhy + (st 0 * upward po - sy 0))) - (qhy + (st 0 * upward po - sy 0)))), .int (iI ((qhx + (st 0 * toSide po - sx 0)) - (st 0 * toSide po - sx 0))), .int (iI ((qhy + (st 0 * upward po - sy 0)) - (st 0 * upward po - sy 0)))])), (aSt, .inl (gI g, 4, .inl (ar st))), (aSx, .inl (gI g, 4, .inl (ar sx))), (aSy, .inl (gI g, 4, .inl (ar sy)))] := hD
    refine lv_iload_n hx hb dX4_deviationIn_17 rfl (lv_at hl 0 rfl) ?_
    have q_4 : qx = ((qx + (qhx + (st 0 * toSide po - sx 0))) - (qhx + (st 0 * toSide po - sx 0))) := by
      first
      | (
         first | rfl | omega | (subst_vars; first | rfl | omega))
      | fail "q9"
    have q_5 : qy = ((qy + (qhy + (st 0 * upward po - sy 0))) - (qhy + (st 0 * upward po - sy 0))) := by
      first
      | (
         first | rfl | omega | (subst_vars; first | rfl | omega))
      | fail "q9"
    have q_6 : qhx = ((qhx + (st 0 * toSide po - sx 0)) - (st 0 * toSide po - sx 0)) := by
      first
      | (
         first | rfl | omega | (subst_vars; first | rfl | omega))
      | fail "q9"
    have q_7 : qhy = ((qhy + (st 0 * upward po - sy 0)) - (st 0 * upward po - sy 0)) := by
      first
      | (
         first | rfl | omega | (subst_vars; first | rfl | omega))
      | fail "q9"
    have hw_8 := (congr (congr (congr (congrArg (fun (z0 : Int) (z1 : Int) (z2 : Int) (z3 : Int) => ([(aS, .inr (7, [.ref aQ, .ref aSt, .ref aSx, .ref aSy, .int (iI sr), .int (iI sl)])), (aQ, .inr (3, [.int (iI z0), .int (iI z1), .int (iI z2), .int (iI z3)])), (aSt, .inl (gI g, 4, .inl (ar st))), (aSx, .inl (gI g, 4, .inl (ar sx))), (aSy, .inl (gI g, 4, .inl (ar sy)))] : va_W)) q_4.symm) q_5.symm) q_6.symm) q_7.symm)
    rw [hQ9]
    exact x_iret hx hb hr hlocks hP hD hS (S := Unit) rfl dX4_deviationIn_18 () (by
        first
        | (
           first | rfl | omega | (subst_vars; first | rfl | omega))
        | fail "q9") (by
        first
        | (
           have h1 := aI_r (qx + (qhx + (st 0 * toSide po - sx 0))) rfl
           have h2 := aI_r (qy + (qhy + (st 0 * upward po - sy 0))) rfl
           have h3 := mulb (A := 9) (B := 1) (a := st 0) (b := toSide po) (by omega) (toSide_r po)
           have h4 := mulb (A := 9) (B := 1) (a := st 0) (b := upward po) (by omega) (upward_r po)
           omega)
        | fail "q9") hw_8 (Nat.le_of_ble_eq_true rfl) (Nat.le_of_ble_eq_true rfl)
  rw [hH, hlo, hQ9] at goal_
  exact goal_

set_option maxHeartbeats 4000000 in
set_option maxRecDepth 100000 in
theorem c_X5_clear (l : Launch) (g : xg) (sz : Nat) (aX aXs : Nat) (tl : Int) : Met l yX5_clear wsX5_clear { frames := 0, cells := 0, slots := 0, locals := 0 } (va_Pc [.ref aX] (xB g [(aX, .inr (8, [.ref aXs, .int (iI tl)]))] sz)) (va_Qv (fun (u : Unit) => True) (fun u t => xE g (va_A [(aX, .inr (8, [.ref aXs, .int (iI tl)]))] sz) ((fun (u : Unit) => [(aX, .inr (8, [.ref aXs, .int (iI 0)]))]) u) t) (va_A [(aX, .inr (8, [.ref aXs, .int (iI tl)]))] sz)) 0 0 (va_A [(aX, .inr (8, [.ref aXs, .int (iI tl)]))] sz) := by
  refine x_enter (y := yX5_clear) (ws := wsX5_clear) (g := g) (sz := sz) (av := [.ref aX]) (WS := [(aX, .inr (8, [.ref aXs, .int (iI tl)]))]) (cc := cX5_clear) (maxL := 1) (ret := none) (Qc := (fun A => (va_Qv (fun (u : Unit) => True) (fun u t => xE g A ((fun (u : Unit) => [(aX, .inr (8, [.ref aXs, .int (iI 0)]))]) u) t) A))) (by decide) rfl (Nat.le_of_ble_eq_true rfl) ?_
  intro p e s m args below meth c A ls hx hb hr hml hown hts hlocks hname hC hP hD hS hA hl
  have hK := hC.1
  have hown : s.vm.findClass RX5 = some m.cls := hown
  have hin5 : ∀ w ∈ u_ws RX5 TX5 2, w ∈ wsX5_clear := by decide +kernel
  have hl : lv_has ls 1 [(0, .ref aX)] := hl
  obtain ⟨H, hH⟩ : ∃ z, z = s.heap := ⟨_, rfl⟩
  obtain ⟨locs, hlo⟩ : ∃ z : List Loc, z = [] := ⟨_, rfl⟩
  obtain ⟨Q9, hQ9⟩ : ∃ z, z = MQ below (va_Qv (fun (u : Unit) => True) (fun u t => xE g A ((fun (u : Unit) => [(aX, .inr (8, [.ref aXs, .int (iI 0)]))]) u) t) A) args s 0 0 A := ⟨_, rfl⟩
  have hP : va_P (gD g) vwCl [(aX, .inr (8, [.ref aXs, .int (iI tl)]))] H := by rw [hH]; exact hP
  have hS : va_S A s.heap H locs := by rw [hH, hlo]; exact hS
  have goal_ : W p l e { frames := 0, cells := 0, slots := 0, locals := 0 } s m args below meth c H locs 0 0 Q9 (F0 m 0 ls []) := by
    clear hH hlo
    refine lv_aload_n hx hb dX5_clear_0 rfl (lv_at hl 0 rfl) ?_
    refine x_iconst hx hb dX5_clear_1 ?_
    refine va_put (D := gD g) (ci := 8) (v := .int (iI 0)) (ty := tyX5 1) (C := RX5) (T := TX5) (N := 2) hx hb hts hin5 tyX5 tyX5_ok nmX5 hown hK hP hD hS 0 rfl rfl 1 (by decide) (hts (.fieldLink RX5 15 "TunnelRing$Text" "length" "I") (List.mem_of_getElem? (i := 1) rfl)) (fun _ h9 => h9) rfl (tyX5_ok 1 (by decide)) rfl rfl (Nat.le_of_ble_eq_true rfl) dX5_clear_2 (fun H locs hP hD hS => ?_)
    have hP : va_P (gD g) vwCl [(aX, .inr (8, [.ref aXs, .int (iI 0)]))] H := hP
    have hD : va_D A [(aX, .inr (8, [.ref aXs, .int (iI 0)]))] := hD
    rw [hQ9]
    exact x_vret hx hb hr hlocks hP hD hS (S := Unit) (Φ := _) (W1 := _) dX5_clear_5 () trivial rfl (Nat.le_of_ble_eq_true rfl) (Nat.le_of_ble_eq_true rfl)
  rw [hH, hlo, hQ9] at goal_
  exact goal_

set_option maxHeartbeats 4000000 in
set_option maxRecDepth 100000 in
theorem c_X5_put (l : Launch) (g : xg) (sz : Nat) (aX aXs : Nat) (tl ch : Int) (sg : Int → Int) (htl : 0 ≤ tl ∧ tl < 40) (hch : 0 ≤ ch ∧ ch < 65536) : Met l yX5_put wsX5_put { frames := 0, cells := 0, slots := 0, locals := 0 } (va_Pc [.ref aX, .int (iI ch)] (xB g [(aX, .inr (8, [.ref aXs, .int (iI tl)])), (aXs, .inl (gC g, 40, .inl (ar sg)))] sz)) (va_Qv (fun (u : Unit) => True) (fun u t => xE g (va_A [(aX, .inr (8, [.ref aXs, .int (iI tl)])), (aXs, .inl (gC g, 40, .inl (ar sg)))] sz) ((fun (u : Unit) => [(aX, .inr (8, [.ref aXs, .int (iI (tl + 1))])), (aXs, .inl (gC g, 40, .inl (ar (up sg tl ch))))]) u) t) (va_A [(aX, .inr (8, [.ref aXs, .int (iI tl)])), (aXs, .inl (gC g, 40, .inl (ar sg)))] sz)) 0 0 (va_A [(aX, .inr (8, [.ref aXs, .int (iI tl)])), (aXs, .inl (gC g, 40, .inl (ar sg)))] sz) := by
  refine x_enter (y := yX5_put) (ws := wsX5_put) (g := g) (sz := sz) (av := [.ref aX, .int (iI ch)]) (WS := [(aX, .inr (8, [.ref aXs, .int (iI tl)])), (aXs, .inl (gC g, 40, .inl (ar sg)))]) (cc := cX5_put) (maxL := 2) (ret := none) (Qc := (fun A => (va_Qv (fun (u : Unit) => True) (fun u t => xE g A ((fun (u : Unit) => [(aX, .inr (8, [.ref aXs, .int (iI (tl + 1))])), (aXs, .inl (gC g, 40, .inl (ar (up sg tl ch))))]) u) t) A))) (by decide) rfl (Nat.le_of_ble_eq_true rfl) ?_
  intro p e s m args below meth c A ls hx hb hr hml hown hts hlocks hname hC hP hD hS hA hl
  have hK := hC.1
  have hown : s.vm.findClass RX5 = some m.cls := hown
  have hin5 : ∀ w ∈ u_ws RX5 TX5 2, w ∈ wsX5_put := by decide +kernel
  have hl : lv_has ls 2 [(0, .ref aX), (1, .int (iI ch))] := hl
  obtain ⟨H, hH⟩ : ∃ z, z = s.heap := ⟨_, rfl⟩
  obtain ⟨locs, hlo⟩ : ∃ z : List Loc, z = [] := ⟨_, rfl⟩
  obtain ⟨Q9, hQ9⟩ : ∃ z, z = MQ below (va_Qv (fun (u : Unit) => True) (fun u t => xE g A ((fun (u : Unit) => [(aX, .inr (8, [.ref aXs, .int (iI (tl + 1))])), (aXs, .inl (gC g, 40, .inl (ar (up sg tl ch))))]) u) t) A) args s 0 0 A := ⟨_, rfl⟩
  have hP : va_P (gD g) vwCl [(aX, .inr (8, [.ref aXs, .int (iI tl)])), (aXs, .inl (gC g, 40, .inl (ar sg)))] H := by rw [hH]; exact hP
  have hS : va_S A s.heap H locs := by rw [hH, hlo]; exact hS
  have goal_ : W p l e { frames := 0, cells := 0, slots := 0, locals := 0 } s m args below meth c H locs 0 0 Q9 (F0 m 0 ls []) := by
    clear hH hlo
    refine lv_aload_n hx hb dX5_put_0 rfl (lv_at hl 0 rfl) ?_
    refine va_get (D := gD g) (ci := 8) (v := .int (iI tl)) (C := RX5) (T := TX5) (N := 2) hx hb hts hin5 hown hK hP 0 rfl rfl 1 (by decide) (hts (.fieldLink RX5 15 "TunnelRing$Text" "length" "I") (List.mem_of_getElem? (i := 1) rfl)) (fun _ h9 => h9) rfl dX5_put_1 ?_
    refine lv_aload_n hx hb dX5_put_4 rfl (lv_at hl 0 rfl) ?_
    refine va_get (D := gD g) (ci := 8) (v := .ref aXs) (C := RX5) (T := TX5) (N := 2) hx hb hts hin5 hown hK hP 0 rfl rfl 0 (by decide) (hts (.fieldLink RX5 9 "TunnelRing$Text" "sign" "[C") (List.mem_of_getElem? (i := 2) rfl)) (fun _ h9 => h9) rfl dX5_put_5 ?_
    refine va_alen (v := iI 40) hx hb hK hP 1 1 rfl rfl (show Int32.ofNat 40 = iI 40 by decide) dX5_put_8 ?_
    refine x_cmp_ge (tgt := 32) hx hb (by omega) (by omega) dX5_put_9 (by decide) (fun c_1 => ?_) (fun c_1 => ?_)
    · skip
      exfalso; omega
    · skip
      refine lv_aload_n hx hb dX5_put_12 rfl (lv_at hl 0 rfl) ?_
      refine va_get (D := gD g) (ci := 8) (v := .ref aXs) (C := RX5) (T := TX5) (N := 2) hx hb hts hin5 hown hK hP 0 rfl rfl 0 (by decide) (hts (.fieldLink RX5 9 "TunnelRing$Text" "sign" "[C") (List.mem_of_getElem? (i := 2) rfl)) (fun _ h9 => h9) rfl dX5_put_13 ?_
      refine lv_aload_n hx hb dX5_put_16 rfl (lv_at hl 0 rfl) ?_
      refine va_get (D := gD g) (ci := 8) (v := .int (iI tl)) (C := RX5) (T := TX5) (N := 2) hx hb hts hin5 hown hK hP 0 rfl rfl 1 (by decide) (hts (.fieldLink RX5 15 "TunnelRing$Text" "length" "I") (List.mem_of_getElem? (i := 1) rfl)) (fun _ h9 => h9) rfl dX5_put_17 ?_
      refine lv_iload_n hx hb dX5_put_20 rfl (lv_at hl 1 rfl) ?_
      refine x_cast hx hb hK hP hD hS 1 1 rfl rfl (by omega) (by omega) (Nat.le_of_ble_eq_true rfl) (by omega) dX5_put_21 (fun H locs hP hD hS => ?_)
      have hP : va_P (gD g) vwCl [(aX, .inr (8, [.ref aXs, .int (iI tl)])), (aXs, .inl (gC g, 40, .inl (ar (up sg tl ch))))] H := hP
      have hD : va_D A [(aX, .inr (8, [.ref aXs, .int (iI tl)])), (aXs, .inl (gC g, 40, .inl (ar (up sg tl ch))))] := hD
      refine lv_aload_n hx hb dX5_put_22 rfl (lv_at hl 0 rfl) ?_
      refine lv_dup hx hb dX5_put_23 rfl ?_
      refine va_get (D := gD g) (ci := 8) (v := .int (iI tl)) (C := RX5) (T := TX5) (N := 2) hx hb hts hin5 hown hK hP 0 rfl rfl 1 (by decide) (hts (.fieldLink RX5 15 "TunnelRing$Text" "length" "I") (List.mem_of_getElem? (i := 1) rfl)) (fun _ h9 => h9) rfl dX5_put_24 ?_
      refine x_iconst hx hb dX5_put_27 ?_
      refine x_iadd hx hb dX5_put_28 ?_
      obtain ⟨v_2, ev_2⟩ : ∃ z : Int, z = tl + 1 := ⟨_, rfl⟩
      refine x_top ev_2.symm ?_
      refine va_put (D := gD g) (ci := 8) (v := .int (iI v_2)) (ty := tyX5 1) (C := RX5) (T := TX5) (N := 2) hx hb hts hin5 tyX5 tyX5_ok nmX5 hown hK hP hD hS 0 rfl rfl 1 (by decide) (hts (.fieldLink RX5 15 "TunnelRing$Text" "length" "I") (List.mem_of_getElem? (i := 1) rfl)) (fun _ h9 => h9) rfl (tyX5_ok 1 (by decide)) rfl rfl (Nat.le_of_ble_eq_true rfl) dX5_put_29 (fun H locs hP hD hS => ?_)
      have hP : va_P (gD g) vwCl [(aX, .inr (8, [.ref aXs, .int (iI v_2)])), (aXs, .inl (gC g, 40, .inl (ar (up sg tl ch))))] H := hP
      have hD : va_D A [(aX, .inr (8, [.ref aXs, .int (iI v_2)])), (aXs, .inl (gC g, 40, .inl (ar (up sg tl ch))))] := hD
      have q_3 : (tl + 1) = v_2 := by
        first
        | (
           first | rfl | omega | (subst_vars; first | rfl | omega))
        | fail "q9"
      have hw_4 := (congrArg (fun (z0 : Int) => ([(aX, .inr (8, [.ref aXs, .int (iI z0)])), (aXs, .inl (gC g, 40, .inl (ar (up sg tl ch))))] : va_W)) q_3.symm)
      rw [hQ9]
      exact x_vret hx hb hr hlocks hP hD hS (S := Unit) (Φ := _) (W1 := _) dX5_put_32 () trivial hw_4 (Nat.le_of_ble_eq_true rfl) (Nat.le_of_ble_eq_true rfl)
  rw [hH, hlo, hQ9] at goal_
  exact goal_

set_option maxHeartbeats 4000000 in
set_option maxRecDepth 100000 in
theorem c_X5_putDigit (l : Launch) (g : xg) (sz : Nat) (aX aXs : Nat) (tl di : Int) (sg : Int → Int) (htl : 0 ≤ tl ∧ tl < 40) (hdi : 0 ≤ di ∧ di ≤ 9) : Met l yX5_putDigit wsX5_putDigit { frames := 1, cells := 0, slots := 0, locals := 21 } (va_Pc [.ref aX, .int (iI di)] (xB g [(aX, .inr (8, [.ref aXs, .int (iI tl)])), (aXs, .inl (gC g, 40, .inl (ar sg)))] sz)) (va_Qv (fun (u : Unit) => True) (fun u t => xE g (va_A [(aX, .inr (8, [.ref aXs, .int (iI tl)])), (aXs, .inl (gC g, 40, .inl (ar sg)))] sz) ((fun (u : Unit) => [(aX, .inr (8, [.ref aXs, .int (iI (tl + 1))])), (aXs, .inl (gC g, 40, .inl (ar (up sg tl (48 + di)))))]) u) t) (va_A [(aX, .inr (8, [.ref aXs, .int (iI tl)])), (aXs, .inl (gC g, 40, .inl (ar sg)))] sz)) 0 0 (va_A [(aX, .inr (8, [.ref aXs, .int (iI tl)])), (aXs, .inl (gC g, 40, .inl (ar sg)))] sz) := by
  refine x_enter (y := yX5_putDigit) (ws := wsX5_putDigit) (g := g) (sz := sz) (av := [.ref aX, .int (iI di)]) (WS := [(aX, .inr (8, [.ref aXs, .int (iI tl)])), (aXs, .inl (gC g, 40, .inl (ar sg)))]) (cc := cX5_putDigit) (maxL := 2) (ret := none) (Qc := (fun A => (va_Qv (fun (u : Unit) => True) (fun u t => xE g A ((fun (u : Unit) => [(aX, .inr (8, [.ref aXs, .int (iI (tl + 1))])), (aXs, .inl (gC g, 40, .inl (ar (up sg tl (48 + di)))))]) u) t) A))) (by decide) rfl (Nat.le_of_ble_eq_true rfl) ?_
  intro p e s m args below meth c A ls hx hb hr hml hown hts hlocks hname hC hP hD hS hA hl
  have hK := hC.1
  have hown : s.vm.findClass RX5 = some m.cls := hown
  have hl : lv_has ls 2 [(0, .ref aX), (1, .int (iI di))] := hl
  obtain ⟨H, hH⟩ : ∃ z, z = s.heap := ⟨_, rfl⟩
  obtain ⟨locs, hlo⟩ : ∃ z : List Loc, z = [] := ⟨_, rfl⟩
  obtain ⟨Q9, hQ9⟩ : ∃ z, z = MQ below (va_Qv (fun (u : Unit) => True) (fun u t => xE g A ((fun (u : Unit) => [(aX, .inr (8, [.ref aXs, .int (iI (tl + 1))])), (aXs, .inl (gC g, 40, .inl (ar (up sg tl (48 + di)))))]) u) t) A) args s 0 0 A := ⟨_, rfl⟩
  have hP : va_P (gD g) vwCl [(aX, .inr (8, [.ref aXs, .int (iI tl)])), (aXs, .inl (gC g, 40, .inl (ar sg)))] H := by rw [hH]; exact hP
  have hS : va_S A s.heap H locs := by rw [hH, hlo]; exact hS
  have goal_ : W p l e { frames := 1, cells := 0, slots := 0, locals := 21 } s m args below meth c H locs 0 0 Q9 (F0 m 0 ls []) := by
    clear hH hlo
    refine lv_aload_n hx hb dX5_putDigit_0 rfl (lv_at hl 0 rfl) ?_
    refine x_bipush hx hb dX5_putDigit_1 (by decide) ?_
    refine lv_iload_n hx hb dX5_putDigit_3 rfl (lv_at hl 1 rfl) ?_
    refine x_iadd hx hb dX5_putDigit_4 ?_
    refine x_i2c hx hb (by omega) dX5_putDigit_5 ?_
    refine x_callv (S := Unit) (wc := [(aX, .inr (8, [.ref aXs, .int (iI tl)])), (aXs, .inl (gC g, 40, .inl (ar sg)))]) (wr := []) hC hP hD hS hA [0, 1] [] [0, 1] rfl rfl (fun hpre => va_runV (As := [.int (iI (48 + di))]) (rest := []) ⟨hx, hb, hml, hown, hts⟩ (c_X5_put l g H.size aX aXs tl (48 + di) sg (by first | (first | assumption | omega | exact bnd_up (by assumption) (by omega) (by omega)) | fail "q8") (by first | (first | assumption | omega | exact bnd_up (by assumption) (by omega) (by omega)) | fail "q8")) (cwV 1 hts gX5_putDigit_X5_put rfl rfl rfl (by decide +kernel) ⟨Nat.le_of_ble_eq_true rfl, Nat.le_of_ble_eq_true rfl⟩) ⟨xB_blind, va_recv hK hP (ci := 8) (q0 := 0) rfl rfl, hpre _⟩ rfl rfl hl.1 rfl (lv_room (Nat.le_of_ble_eq_true rfl)) dX5_putDigit_6 ⟨Nat.le_of_ble_eq_true rfl, Nat.le_of_ble_eq_true rfl⟩) (fun (u : Unit) => [(aX, .inr (8, [.ref aXs, .int (iI (tl + 1))])), (aXs, .inl (gC g, 40, .inl (ar (up sg tl (48 + di)))))]) rfl rfl (by decide) (fun _ => rfl) rfl (fun u H locs hv_1 hP hD hS => ?_)
    have hP : va_P (gD g) vwCl [(aX, .inr (8, [.ref aXs, .int (iI (tl + 1))])), (aXs, .inl (gC g, 40, .inl (ar (up sg tl (48 + di)))))] H := hP
    have hD : va_D A [(aX, .inr (8, [.ref aXs, .int (iI (tl + 1))])), (aXs, .inl (gC g, 40, .inl (ar (up sg tl (48 + di)))))] := hD
    rw [hQ9]
    exact x_vret hx hb hr hlocks hP hD hS (S := Unit) (Φ := _) (W1 := _) dX5_putDigit_9 () trivial rfl (Nat.le_of_ble_eq_true rfl) (Nat.le_of_ble_eq_true rfl)
  rw [hH, hlo, hQ9] at goal_
  exact goal_

set_option maxHeartbeats 4000000 in
set_option maxRecDepth 100000 in
theorem c_X6_lastPosition (l : Launch) (g : xg) (sz : Nat) (aT aTp aTt aTx aTy aE : Nat) (ld : Int) (tp : Int → Int) (hld : 0 ≤ ld ∧ ld ≤ 200) (hb_tp : bnd tp 0 7) : Met l yX6_lastPosition wsX6_lastPosition { frames := 0, cells := 0, slots := 0, locals := 0 } (va_Pc [.ref aT] (xB g [(aT, .inr (9, [.ref aTp, .ref aTt, .ref aTx, .ref aTy, .ref aE, .int (iI ld)])), (aTp, .inl (gI g, 200, .inl (ar tp)))] sz)) (va_Qi (fun r u => r = iI ((fun (u : Unit) => lastP ld tp) u) ∧ (fun (u : Unit) => -1 ≤ (lastP ld tp) ∧ (lastP ld tp) ≤ 7) u) (fun u t => xE g (va_A [(aT, .inr (9, [.ref aTp, .ref aTt, .ref aTx, .ref aTy, .ref aE, .int (iI ld)])), (aTp, .inl (gI g, 200, .inl (ar tp)))] sz) ((fun (u : Unit) => [(aT, .inr (9, [.ref aTp, .ref aTt, .ref aTx, .ref aTy, .ref aE, .int (iI ld)])), (aTp, .inl (gI g, 200, .inl (ar tp)))]) u) t) (va_A [(aT, .inr (9, [.ref aTp, .ref aTt, .ref aTx, .ref aTy, .ref aE, .int (iI ld)])), (aTp, .inl (gI g, 200, .inl (ar tp)))] sz)) 0 0 (va_A [(aT, .inr (9, [.ref aTp, .ref aTt, .ref aTx, .ref aTy, .ref aE, .int (iI ld)])), (aTp, .inl (gI g, 200, .inl (ar tp)))] sz) := by
  refine x_enter (y := yX6_lastPosition) (ws := wsX6_lastPosition) (g := g) (sz := sz) (av := [.ref aT]) (WS := [(aT, .inr (9, [.ref aTp, .ref aTt, .ref aTx, .ref aTy, .ref aE, .int (iI ld)])), (aTp, .inl (gI g, 200, .inl (ar tp)))]) (cc := cX6_lastPosition) (maxL := 1) (ret := some .int) (Qc := (fun A => (va_Qi (fun r u => r = iI ((fun (u : Unit) => lastP ld tp) u) ∧ (fun (u : Unit) => -1 ≤ (lastP ld tp) ∧ (lastP ld tp) ≤ 7) u) (fun u t => xE g A ((fun (u : Unit) => [(aT, .inr (9, [.ref aTp, .ref aTt, .ref aTx, .ref aTy, .ref aE, .int (iI ld)])), (aTp, .inl (gI g, 200, .inl (ar tp)))]) u) t) A))) (by decide) rfl (Nat.le_of_ble_eq_true rfl) ?_
  intro p e s m args below meth c A ls hx hb hr hml hown hts hlocks hname hC hP hD hS hA hl
  have hK := hC.1
  have hown : s.vm.findClass RX6 = some m.cls := hown
  have hin6 : ∀ w ∈ u_ws RX6 TX6 6, w ∈ wsX6_lastPosition := by decide +kernel
  have hl : lv_has ls 1 [(0, .ref aT)] := hl
  obtain ⟨H, hH⟩ : ∃ z, z = s.heap := ⟨_, rfl⟩
  obtain ⟨locs, hlo⟩ : ∃ z : List Loc, z = [] := ⟨_, rfl⟩
  obtain ⟨Q9, hQ9⟩ : ∃ z, z = MQ below (va_Qi (fun r u => r = iI ((fun (u : Unit) => lastP ld tp) u) ∧ (fun (u : Unit) => -1 ≤ (lastP ld tp) ∧ (lastP ld tp) ≤ 7) u) (fun u t => xE g A ((fun (u : Unit) => [(aT, .inr (9, [.ref aTp, .ref aTt, .ref aTx, .ref aTy, .ref aE, .int (iI ld)])), (aTp, .inl (gI g, 200, .inl (ar tp)))]) u) t) A) args s 0 0 A := ⟨_, rfl⟩
  have hP : va_P (gD g) vwCl [(aT, .inr (9, [.ref aTp, .ref aTt, .ref aTx, .ref aTy, .ref aE, .int (iI ld)])), (aTp, .inl (gI g, 200, .inl (ar tp)))] H := by rw [hH]; exact hP
  have hS : va_S A s.heap H locs := by rw [hH, hlo]; exact hS
  have goal_ : W p l e { frames := 0, cells := 0, slots := 0, locals := 0 } s m args below meth c H locs 0 0 Q9 (F0 m 0 ls []) := by
    clear hH hlo
    refine lv_aload_n hx hb dX6_lastPosition_0 rfl (lv_at hl 0 rfl) ?_
    refine va_get (D := gD g) (ci := 9) (v := .int (iI ld)) (C := RX6) (T := TX6) (N := 6) hx hb hts hin6 hown hK hP 0 rfl rfl 5 (by decide) (hts (.fieldLink RX6 31 "TunnelRing$Tube" "laid" "I") (List.mem_of_getElem? (i := 1) rfl)) (fun _ h9 => h9) rfl dX6_lastPosition_1 ?_
    refine x_if_ne (tgt := 11) hx hb (by omega) dX6_lastPosition_4 (by decide) (fun c_1 => ?_) (fun c_1 => ?_)
    · skip
      refine lv_aload_n hx hb dX6_lastPosition_11 rfl (lv_at hl 0 rfl) ?_
      refine va_get (D := gD g) (ci := 9) (v := .ref aTp) (C := RX6) (T := TX6) (N := 6) hx hb hts hin6 hown hK hP 0 rfl rfl 0 (by decide) (hts (.fieldLink RX6 9 "TunnelRing$Tube" "position" "[I") (List.mem_of_getElem? (i := 2) rfl)) (fun _ h9 => h9) rfl dX6_lastPosition_12 ?_
      refine lv_aload_n hx hb dX6_lastPosition_15 rfl (lv_at hl 0 rfl) ?_
      refine va_get (D := gD g) (ci := 9) (v := .int (iI ld)) (C := RX6) (T := TX6) (N := 6) hx hb hts hin6 hown hK hP 0 rfl rfl 5 (by decide) (hts (.fieldLink RX6 31 "TunnelRing$Tube" "laid" "I") (List.mem_of_getElem? (i := 1) rfl)) (fun _ h9 => h9) rfl dX6_lastPosition_16 ?_
      refine x_iconst hx hb dX6_lastPosition_19 ?_
      refine x_isub hx hb dX6_lastPosition_20 ?_
      refine x_iald hx hb hK hP 1 0 rfl rfl (by omega) (by omega) (Nat.le_of_ble_eq_true rfl) dX6_lastPosition_21 (fun v_2 hv_2 => ?_)
      have bv_2 : 0 ≤ v_2 ∧ v_2 ≤ 7 := by rw [hv_2]; exact hb_tp _
      rw [hQ9]
      exact x_iret hx hb hr hlocks hP hD hS (S := Unit) rfl dX6_lastPosition_22 () (by
          first
          | (
             unfold lastP
             subst_vars
             first | rw [if_pos (by omega)] | rw [if_neg (by omega)])
          | fail "q9") (by
          first
          | (
             exact lastP_r hb_tp)
          | fail "q9") rfl (Nat.le_of_ble_eq_true rfl) (Nat.le_of_ble_eq_true rfl)
    · skip
      refine x_iconst hx hb dX6_lastPosition_7 ?_
      refine lv_goto (tgt := 22) hx hb dX6_lastPosition_8 (by decide) ?_
      rw [hQ9]
      exact x_iret hx hb hr hlocks hP hD hS (S := Unit) rfl dX6_lastPosition_22 () (by
          first
          | (
             unfold lastP
             subst_vars
             first | rw [if_pos (by omega)] | rw [if_neg (by omega)])
          | fail "q9") (by
          first
          | (
             exact lastP_r hb_tp)
          | fail "q9") rfl (Nat.le_of_ble_eq_true rfl) (Nat.le_of_ble_eq_true rfl)
  rw [hH, hlo, hQ9] at goal_
  exact goal_

set_option maxHeartbeats 4000000 in
set_option maxRecDepth 100000 in
theorem c_X6_append (l : Launch) (g : xg) (sz : Nat) (aT aTp aTt aTx aTy aE : Nat) (ld ex ey ehx ehy po ta : Int) (tp tt kx ky : Int → Int) (hld : 0 ≤ ld ∧ ld < 200) (hpo : 0 ≤ po ∧ po ≤ 7) : Met l yX6_append wsX6_append { frames := 2, cells := 0, slots := 0, locals := 44 } (va_Pc [.ref aT, .int (iI po), .int (iI ta)] (xB g [(aT, .inr (9, [.ref aTp, .ref aTt, .ref aTx, .ref aTy, .ref aE, .int (iI ld)])), (aTp, .inl (gI g, 200, .inl (ar tp))), (aTt, .inl (gI g, 200, .inl (ar tt))), (aTx, .inl (gI g, 200, .inl (ar kx))), (aTy, .inl (gI g, 200, .inl (ar ky))), (aE, .inr (3, [.int (iI ex), .int (iI ey), .int (iI ehx), .int (iI ehy)]))] sz)) (va_Qv (fun (u : Unit) => True) (fun u t => xE g (va_A [(aT, .inr (9, [.ref aTp, .ref aTt, .ref aTx, .ref aTy, .ref aE, .int (iI ld)])), (aTp, .inl (gI g, 200, .inl (ar tp))), (aTt, .inl (gI g, 200, .inl (ar tt))), (aTx, .inl (gI g, 200, .inl (ar kx))), (aTy, .inl (gI g, 200, .inl (ar ky))), (aE, .inr (3, [.int (iI ex), .int (iI ey), .int (iI ehx), .int (iI ehy)]))] sz) ((fun (u : Unit) => [(aT, .inr (9, [.ref aTp, .ref aTt, .ref aTx, .ref aTy, .ref aE, .int (iI (ld + 1))])), (aTp, .inl (gI g, 200, .inl (ar (up tp ld po)))), (aTt, .inl (gI g, 200, .inl (ar (up tt ld ta)))), (aTx, .inl (gI g, 200, .inl (ar (up kx ld (ex + (ehx + ta * toSide po)))))), (aTy, .inl (gI g, 200, .inl (ar (up ky ld (ey + (ehy + ta * upward po)))))), (aE, .inr (3, [.int (iI (ex + (ehx + ta * toSide po))), .int (iI (ey + (ehy + ta * upward po))), .int (iI (ehx + ta * toSide po)), .int (iI (ehy + ta * upward po))]))]) u) t) (va_A [(aT, .inr (9, [.ref aTp, .ref aTt, .ref aTx, .ref aTy, .ref aE, .int (iI ld)])), (aTp, .inl (gI g, 200, .inl (ar tp))), (aTt, .inl (gI g, 200, .inl (ar tt))), (aTx, .inl (gI g, 200, .inl (ar kx))), (aTy, .inl (gI g, 200, .inl (ar ky))), (aE, .inr (3, [.int (iI ex), .int (iI ey), .int (iI ehx), .int (iI ehy)]))] sz)) 0 0 (va_A [(aT, .inr (9, [.ref aTp, .ref aTt, .ref aTx, .ref aTy, .ref aE, .int (iI ld)])), (aTp, .inl (gI g, 200, .inl (ar tp))), (aTt, .inl (gI g, 200, .inl (ar tt))), (aTx, .inl (gI g, 200, .inl (ar kx))), (aTy, .inl (gI g, 200, .inl (ar ky))), (aE, .inr (3, [.int (iI ex), .int (iI ey), .int (iI ehx), .int (iI ehy)]))] sz) := by
  refine x_enter (y := yX6_append) (ws := wsX6_append) (g := g) (sz := sz) (av := [.ref aT, .int (iI po), .int (iI ta)]) (WS := [(aT, .inr (9, [.ref aTp, .ref aTt, .ref aTx, .ref aTy, .ref aE, .int (iI ld)])), (aTp, .inl (gI g, 200, .inl (ar tp))), (aTt, .inl (gI g, 200, .inl (ar tt))), (aTx, .inl (gI g, 200, .inl (ar kx))), (aTy, .inl (gI g, 200, .inl (ar ky))), (aE, .inr (3, [.int (iI ex), .int (iI ey), .int (iI ehx), .int (iI ehy)]))]) (cc := cX6_append) (maxL := 3) (ret := none) (Qc := (fun A => (va_Qv (fun (u : Unit) => True) (fun u t => xE g A ((fun (u : Unit) => [(aT, .inr (9, [.ref aTp, .ref aTt, .ref aTx, .ref aTy, .ref aE, .int (iI (ld + 1))])), (aTp, .inl (gI g, 200, .inl (ar (up tp ld po)))), (aTt, .inl (gI g, 200, .inl (ar (up tt ld ta)))), (aTx, .inl (gI g, 200, .inl (ar (up kx ld (ex + (ehx + ta * toSide po)))))), (aTy, .inl (gI g, 200, .inl (ar (up ky ld (ey + (ehy + ta * upward po)))))), (aE, .inr (3, [.int (iI (ex + (ehx + ta * toSide po))), .int (iI (ey + (ehy + ta * upward po))), .int (iI (ehx + ta * toSide po)), .int (iI (ehy + ta * upward po))]))]) u) t) A))) (by decide) rfl (Nat.le_of_ble_eq_true rfl) ?_
  intro p e s m args below meth c A ls hx hb hr hml hown hts hlocks hname hC hP hD hS hA hl
  have hK := hC.1
  have hown : s.vm.findClass RX6 = some m.cls := hown
  have hin0 : ∀ w ∈ u_ws RX0 TX0 4, w ∈ wsX6_append := by decide +kernel
  have hin6 : ∀ w ∈ u_ws RX6 TX6 6, w ∈ wsX6_append := by decide +kernel
  have hl : lv_has ls 3 [(0, .ref aT), (1, .int (iI po)), (2, .int (iI ta))] := hl
  obtain ⟨H, hH⟩ : ∃ z, z = s.heap := ⟨_, rfl⟩
  obtain ⟨locs, hlo⟩ : ∃ z : List Loc, z = [] := ⟨_, rfl⟩
  obtain ⟨Q9, hQ9⟩ : ∃ z, z = MQ below (va_Qv (fun (u : Unit) => True) (fun u t => xE g A ((fun (u : Unit) => [(aT, .inr (9, [.ref aTp, .ref aTt, .ref aTx, .ref aTy, .ref aE, .int (iI (ld + 1))])), (aTp, .inl (gI g, 200, .inl (ar (up tp ld po)))), (aTt, .inl (gI g, 200, .inl (ar (up tt ld ta)))), (aTx, .inl (gI g, 200, .inl (ar (up kx ld (ex + (ehx + ta * toSide po)))))), (aTy, .inl (gI g, 200, .inl (ar (up ky ld (ey + (ehy + ta * upward po)))))), (aE, .inr (3, [.int (iI (ex + (ehx + ta * toSide po))), .int (iI (ey + (ehy + ta * upward po))), .int (iI (ehx + ta * toSide po)), .int (iI (ehy + ta * upward po))]))]) u) t) A) args s 0 0 A := ⟨_, rfl⟩
  have hP : va_P (gD g) vwCl [(aT, .inr (9, [.ref aTp, .ref aTt, .ref aTx, .ref aTy, .ref aE, .int (iI ld)])), (aTp, .inl (gI g, 200, .inl (ar tp))), (aTt, .inl (gI g, 200, .inl (ar tt))), (aTx, .inl (gI g, 200, .inl (ar kx))), (aTy, .inl (gI g, 200, .inl (ar ky))), (aE, .inr (3, [.int (iI ex), .int (iI ey), .int (iI ehx), .int (iI ehy)]))] H := by rw [hH]; exact hP
  have hS : va_S A s.heap H locs := by rw [hH, hlo]; exact hS
  have goal_ : W p l e { frames := 2, cells := 0, slots := 0, locals := 44 } s m args below meth c H locs 0 0 Q9 (F0 m 0 ls []) := by
    clear hH hlo
    refine lv_aload_n hx hb dX6_append_0 rfl (lv_at hl 0 rfl) ?_
    refine va_get (D := gD g) (ci := 9) (v := .int (iI ld)) (C := RX6) (T := TX6) (N := 6) hx hb hts hin6 hown hK hP 0 rfl rfl 5 (by decide) (hts (.fieldLink RX6 31 "TunnelRing$Tube" "laid" "I") (List.mem_of_getElem? (i := 1) rfl)) (fun _ h9 => h9) rfl dX6_append_1 ?_
    refine x_sipush hx hb dX6_append_4 (by decide) ?_
    refine x_cmp_ge (tgt := 81) hx hb (by omega) (by omega) dX6_append_7 (by decide) (fun c_1 => ?_) (fun c_1 => ?_)
    · skip
      exfalso; omega
    · skip
      refine lv_aload_n hx hb dX6_append_10 rfl (lv_at hl 0 rfl) ?_
      refine va_get (D := gD g) (ci := 9) (v := .ref aE) (C := RX6) (T := TX6) (N := 6) hx hb hts hin6 hown hK hP 0 rfl rfl 4 (by decide) (hts (.fieldLink RX6 27 "TunnelRing$Tube" "end" "LTunnelRing$Course;") (List.mem_of_getElem? (i := 2) rfl)) (fun _ h9 => h9) rfl dX6_append_11 ?_
      refine lv_iload_n hx hb dX6_append_14 rfl (lv_at hl 1 rfl) ?_
      refine lv_iload_n hx hb dX6_append_15 rfl (lv_at hl 2 rfl) ?_
      refine x_callv (S := Unit) (wc := [(aE, .inr (3, [.int (iI ex), .int (iI ey), .int (iI ehx), .int (iI ehy)]))]) (wr := [(aT, .inr (9, [.ref aTp, .ref aTt, .ref aTx, .ref aTy, .ref aE, .int (iI ld)])), (aTp, .inl (gI g, 200, .inl (ar tp))), (aTt, .inl (gI g, 200, .inl (ar tt))), (aTx, .inl (gI g, 200, .inl (ar kx))), (aTy, .inl (gI g, 200, .inl (ar ky)))]) hC hP hD hS hA [5] [0, 1, 2, 3, 4] [0, 1, 2, 3, 4, 5] rfl rfl (fun hpre => va_runV (As := [.int (iI po), .int (iI ta)]) (rest := []) ⟨hx, hb, hml, hown, hts⟩ (c_X0_addRing l g H.size aE ex ey ehx ehy po ta (by first | (first | assumption | omega | exact bnd_up (by assumption) (by omega) (by omega)) | fail "q8")) (cwV 2 hts gX6_append_X0_addRing rfl rfl rfl (by decide +kernel) ⟨Nat.le_of_ble_eq_true rfl, Nat.le_of_ble_eq_true rfl⟩) ⟨xB_blind, va_recv hK hP (ci := 3) (q0 := 5) rfl rfl, hpre _⟩ rfl rfl hl.1 rfl (lv_room (Nat.le_of_ble_eq_true rfl)) dX6_append_16 ⟨Nat.le_of_ble_eq_true rfl, Nat.le_of_ble_eq_true rfl⟩) (fun (u : Unit) => [(aT, .inr (9, [.ref aTp, .ref aTt, .ref aTx, .ref aTy, .ref aE, .int (iI ld)])), (aTp, .inl (gI g, 200, .inl (ar tp))), (aTt, .inl (gI g, 200, .inl (ar tt))), (aTx, .inl (gI g, 200, .inl (ar kx))), (aTy, .inl (gI g, 200, .inl (ar ky))), (aE, .inr (3, [.int (iI (ex + (ehx + ta * toSide po))), .int (iI (ey + (ehy + ta * upward po))), .int (iI (ehx + ta * toSide po)), .int (iI (ehy + ta * upward po))]))]) rfl rfl (by decide) (fun _ => rfl) rfl (fun u H locs hv_2 hP hD hS => ?_)
      have hP : va_P (gD g) vwCl [(aT, .inr (9, [.ref aTp, .ref aTt, .ref aTx, .ref aTy, .ref aE, .int (iI ld)])), (aTp, .inl (gI g, 200, .inl (ar tp))), (aTt, .inl (gI g, 200, .inl (ar tt))), (aTx, .inl (gI g, 200, .inl (ar kx))), (aTy, .inl (gI g, 200, .inl (ar ky))), (aE, .inr (3, [.int (iI (ex + (ehx + ta * toSide po))), .int (iI (ey + (ehy + ta * upward po))), .int (iI (ehx + ta * toSide po)), .int (iI (ehy + ta * upward po))]))] H := hP
      have hD : va_D A [(aT, .inr (9, [.ref aTp, .ref aTt, .ref aTx, .ref aTy, .ref aE, .int (iI ld)])), (aTp, .inl (gI g, 200, .inl (ar tp))), (aTt, .inl (gI g, 200, .inl (ar tt))), (aTx, .inl (gI g, 200, .inl (ar kx))), (aTy, .inl (gI g, 200, .inl (ar ky))), (aE, .inr (3, [.int (iI (ex + (ehx + ta * toSide po))), .int (iI (ey + (ehy + ta * upward po))), .int (iI (ehx + ta * toSide po)), .int (iI (ehy + ta * upward po))]))] := hD
      refine lv_aload_n hx hb dX6_append_19 rfl (lv_at hl 0 rfl) ?_
      refine va_get (D := gD g) (ci := 9) (v := .ref aTp) (C := RX6) (T := TX6) (N := 6) hx hb hts hin6 hown hK hP 0 rfl rfl 0 (by decide) (hts (.fieldLink RX6 9 "TunnelRing$Tube" "position" "[I") (List.mem_of_getElem? (i := 3) rfl)) (fun _ h9 => h9) rfl dX6_append_20 ?_
      refine lv_aload_n hx hb dX6_append_23 rfl (lv_at hl 0 rfl) ?_
      refine va_get (D := gD g) (ci := 9) (v := .int (iI ld)) (C := RX6) (T := TX6) (N := 6) hx hb hts hin6 hown hK hP 0 rfl rfl 5 (by decide) (hts (.fieldLink RX6 31 "TunnelRing$Tube" "laid" "I") (List.mem_of_getElem? (i := 1) rfl)) (fun _ h9 => h9) rfl dX6_append_24 ?_
      refine lv_iload_n hx hb dX6_append_27 rfl (lv_at hl 1 rfl) ?_
      refine x_iast hx hb hK hP hD hS 1 0 rfl rfl (by omega) (by omega) (Nat.le_of_ble_eq_true rfl) dX6_append_28 (fun H locs hP hD hS => ?_)
      have hP : va_P (gD g) vwCl [(aT, .inr (9, [.ref aTp, .ref aTt, .ref aTx, .ref aTy, .ref aE, .int (iI ld)])), (aTp, .inl (gI g, 200, .inl (ar (up tp ld po)))), (aTt, .inl (gI g, 200, .inl (ar tt))), (aTx, .inl (gI g, 200, .inl (ar kx))), (aTy, .inl (gI g, 200, .inl (ar ky))), (aE, .inr (3, [.int (iI (ex + (ehx + ta * toSide po))), .int (iI (ey + (ehy + ta * upward po))), .int (iI (ehx + ta * toSide po)), .int (iI (ehy + ta * upward po))]))] H := hP
      have hD : va_D A [(aT, .inr (9, [.ref aTp, .ref aTt, .ref aTx, .ref aTy, .ref aE, .int (iI ld)])), (aTp, .inl (gI g, 200, .inl (ar (up tp ld po)))), (aTt, .inl (gI g, 200, .inl (ar tt))), (aTx, .inl (gI g, 200, .inl (ar kx))), (aTy, .inl (gI g, 200, .inl (ar ky))), (aE, .inr (3, [.int (iI (ex + (ehx + ta * toSide po))), .int (iI (ey + (ehy + ta * upward po))), .int (iI (ehx + ta * toSide po)), .int (iI (ehy + ta * upward po))]))] := hD
      refine lv_aload_n hx hb dX6_append_29 rfl (lv_at hl 0 rfl) ?_
      refine va_get (D := gD g) (ci := 9) (v := .ref aTt) (C := RX6) (T := TX6) (N := 6) hx hb hts hin6 hown hK hP 0 rfl rfl 1 (by decide) (hts (.fieldLink RX6 15 "TunnelRing$Tube" "taper" "[I") (List.mem_of_getElem? (i := 4) rfl)) (fun _ h9 => h9) rfl dX6_append_30 ?_
      refine lv_aload_n hx hb dX6_append_33 rfl (lv_at hl 0 rfl) ?_
      refine va_get (D := gD g) (ci := 9) (v := .int (iI ld)) (C := RX6) (T := TX6) (N := 6) hx hb hts hin6 hown hK hP 0 rfl rfl 5 (by decide) (hts (.fieldLink RX6 31 "TunnelRing$Tube" "laid" "I") (List.mem_of_getElem? (i := 1) rfl)) (fun _ h9 => h9) rfl dX6_append_34 ?_
      refine lv_iload_n hx hb dX6_append_37 rfl (lv_at hl 2 rfl) ?_
      refine x_iast hx hb hK hP hD hS 2 0 rfl rfl (by omega) (by omega) (Nat.le_of_ble_eq_true rfl) dX6_append_38 (fun H locs hP hD hS => ?_)
      have hP : va_P (gD g) vwCl [(aT, .inr (9, [.ref aTp, .ref aTt, .ref aTx, .ref aTy, .ref aE, .int (iI ld)])), (aTp, .inl (gI g, 200, .inl (ar (up tp ld po)))), (aTt, .inl (gI g, 200, .inl (ar (up tt ld ta)))), (aTx, .inl (gI g, 200, .inl (ar kx))), (aTy, .inl (gI g, 200, .inl (ar ky))), (aE, .inr (3, [.int (iI (ex + (ehx + ta * toSide po))), .int (iI (ey + (ehy + ta * upward po))), .int (iI (ehx + ta * toSide po)), .int (iI (ehy + ta * upward po))]))] H := hP
      have hD : va_D A [(aT, .inr (9, [.ref aTp, .ref aTt, .ref aTx, .ref aTy, .ref aE, .int (iI ld)])), (aTp, .inl (gI g, 200, .inl (ar (up tp ld po)))), (aTt, .inl (gI g, 200, .inl (ar (up tt ld ta)))), (aTx, .inl (gI g, 200, .inl (ar kx))), (aTy, .inl (gI g, 200, .inl (ar ky))), (aE, .inr (3, [.int (iI (ex + (ehx + ta * toSide po))), .int (iI (ey + (ehy + ta * upward po))), .int (iI (ehx + ta * toSide po)), .int (iI (ehy + ta * upward po))]))] := hD
      refine lv_aload_n hx hb dX6_append_39 rfl (lv_at hl 0 rfl) ?_
      refine va_get (D := gD g) (ci := 9) (v := .ref aTx) (C := RX6) (T := TX6) (N := 6) hx hb hts hin6 hown hK hP 0 rfl rfl 2 (by decide) (hts (.fieldLink RX6 18 "TunnelRing$Tube" "keptX" "[I") (List.mem_of_getElem? (i := 5) rfl)) (fun _ h9 => h9) rfl dX6_append_40 ?_
      refine lv_aload_n hx hb dX6_append_43 rfl (lv_at hl 0 rfl) ?_
      refine va_get (D := gD g) (ci := 9) (v := .int (iI ld)) (C := RX6) (T := TX6) (N := 6) hx hb hts hin6 hown hK hP 0 rfl rfl 5 (by decide) (hts (.fieldLink RX6 31 "TunnelRing$Tube" "laid" "I") (List.mem_of_getElem? (i := 1) rfl)) (fun _ h9 => h9) rfl dX6_append_44 ?_
      refine lv_aload_n hx hb dX6_append_47 rfl (lv_at hl 0 rfl) ?_
      refine va_get (D := gD g) (ci := 9) (v := .ref aE) (C := RX6) (T := TX6) (N := 6) hx hb hts hin6 hown hK hP 0 rfl rfl 4 (by decide) (hts (.fieldLink RX6 27 "TunnelRing$Tube" "end" "LTunnelRing$Course;") (List.mem_of_getElem? (i := 2) rfl)) (fun _ h9 => h9) rfl dX6_append_48 ?_
      refine va_get (D := gD g) (ci := 3) (v := .int (iI (ex + (ehx + ta * toSide po)))) (C := RX0) (T := TX0) (N := 4) hx hb hts hin0 hown hK hP 5 rfl rfl 0 (by decide) (hts (.fieldLink RX6 39 "TunnelRing$Course" "x" "I") (List.mem_of_getElem? (i := 6) rfl)) (fun _ h9 => h9) rfl dX6_append_51 ?_
      obtain ⟨v_3, ev_3⟩ : ∃ z : Int, z = ex + (ehx + ta * toSide po) := ⟨_, rfl⟩
      refine x_top ev_3.symm ?_
      refine x_iast hx hb hK hP hD hS 3 0 rfl rfl (by omega) (by omega) (Nat.le_of_ble_eq_true rfl) dX6_append_54 (fun H locs hP hD hS => ?_)
      have hP : va_P (gD g) vwCl [(aT, .inr (9, [.ref aTp, .ref aTt, .ref aTx, .ref aTy, .ref aE, .int (iI ld)])), (aTp, .inl (gI g, 200, .inl (ar (up tp ld po)))), (aTt, .inl (gI g, 200, .inl (ar (up tt ld ta)))), (aTx, .inl (gI g, 200, .inl (ar (up kx ld v_3)))), (aTy, .inl (gI g, 200, .inl (ar ky))), (aE, .inr (3, [.int (iI (ex + (ehx + ta * toSide po))), .int (iI (ey + (ehy + ta * upward po))), .int (iI (ehx + ta * toSide po)), .int (iI (ehy + ta * upward po))]))] H := hP
      have hD : va_D A [(aT, .inr (9, [.ref aTp, .ref aTt, .ref aTx, .ref aTy, .ref aE, .int (iI ld)])), (aTp, .inl (gI g, 200, .inl (ar (up tp ld po)))), (aTt, .inl (gI g, 200, .inl (ar (up tt ld ta)))), (aTx, .inl (gI g, 200, .inl (ar (up kx ld v_3)))), (aTy, .inl (gI g, 200, .inl (ar ky))), (aE, .inr (3, [.int (iI (ex + (ehx + ta * toSide po))), .int (iI (ey + (ehy + ta * upward po))), .int (iI (ehx + ta * toSide po)), .int (iI (ehy + ta * upward po))]))] := hD
      refine lv_aload_n hx hb dX6_append_55 rfl (lv_at hl 0 rfl) ?_
      refine va_get (D := gD g) (ci := 9) (v := .ref aTy) (C := RX6) (T := TX6) (N := 6) hx hb hts hin6 hown hK hP 0 rfl rfl 3 (by decide) (hts (.fieldLink RX6 21 "TunnelRing$Tube" "keptY" "[I") (List.mem_of_getElem? (i := 7) rfl)) (fun _ h9 => h9) rfl dX6_append_56 ?_
      refine lv_aload_n hx hb dX6_append_59 rfl (lv_at hl 0 rfl) ?_
      refine va_get (D := gD g) (ci := 9) (v := .int (iI ld)) (C := RX6) (T := TX6) (N := 6) hx hb hts hin6 hown hK hP 0 rfl rfl 5 (by decide) (hts (.fieldLink RX6 31 "TunnelRing$Tube" "laid" "I") (List.mem_of_getElem? (i := 1) rfl)) (fun _ h9 => h9) rfl dX6_append_60 ?_
      refine lv_aload_n hx hb dX6_append_63 rfl (lv_at hl 0 rfl) ?_
      refine va_get (D := gD g) (ci := 9) (v := .ref aE) (C := RX6) (T := TX6) (N := 6) hx hb hts hin6 hown hK hP 0 rfl rfl 4 (by decide) (hts (.fieldLink RX6 27 "TunnelRing$Tube" "end" "LTunnelRing$Course;") (List.mem_of_getElem? (i := 2) rfl)) (fun _ h9 => h9) rfl dX6_append_64 ?_
      refine va_get (D := gD g) (ci := 3) (v := .int (iI (ey + (ehy + ta * upward po)))) (C := RX0) (T := TX0) (N := 4) hx hb hts hin0 hown hK hP 5 rfl rfl 1 (by decide) (hts (.fieldLink RX6 42 "TunnelRing$Course" "y" "I") (List.mem_of_getElem? (i := 8) rfl)) (fun _ h9 => h9) rfl dX6_append_67 ?_
      obtain ⟨v_4, ev_4⟩ : ∃ z : Int, z = ey + (ehy + ta * upward po) := ⟨_, rfl⟩
      refine x_top ev_4.symm ?_
      refine x_iast hx hb hK hP hD hS 4 0 rfl rfl (by omega) (by omega) (Nat.le_of_ble_eq_true rfl) dX6_append_70 (fun H locs hP hD hS => ?_)
      have hP : va_P (gD g) vwCl [(aT, .inr (9, [.ref aTp, .ref aTt, .ref aTx, .ref aTy, .ref aE, .int (iI ld)])), (aTp, .inl (gI g, 200, .inl (ar (up tp ld po)))), (aTt, .inl (gI g, 200, .inl (ar (up tt ld ta)))), (aTx, .inl (gI g, 200, .inl (ar (up kx ld v_3)))), (aTy, .inl (gI g, 200, .inl (ar (up ky ld v_4)))), (aE, .inr (3, [.int (iI (ex + (ehx + ta * toSide po))), .int (iI (ey + (ehy + ta * upward po))), .int (iI (ehx + ta * toSide po)), .int (iI (ehy + ta * upward po))]))] H := hP
      have hD : va_D A [(aT, .inr (9, [.ref aTp, .ref aTt, .ref aTx, .ref aTy, .ref aE, .int (iI ld)])), (aTp, .inl (gI g, 200, .inl (ar (up tp ld po)))), (aTt, .inl (gI g, 200, .inl (ar (up tt ld ta)))), (aTx, .inl (gI g, 200, .inl (ar (up kx ld v_3)))), (aTy, .inl (gI g, 200, .inl (ar (up ky ld v_4)))), (aE, .inr (3, [.int (iI (ex + (ehx + ta * toSide po))), .int (iI (ey + (ehy + ta * upward po))), .int (iI (ehx + ta * toSide po)), .int (iI (ehy + ta * upward po))]))] := hD
      refine lv_aload_n hx hb dX6_append_71 rfl (lv_at hl 0 rfl) ?_
      refine lv_dup hx hb dX6_append_72 rfl ?_
      refine va_get (D := gD g) (ci := 9) (v := .int (iI ld)) (C := RX6) (T := TX6) (N := 6) hx hb hts hin6 hown hK hP 0 rfl rfl 5 (by decide) (hts (.fieldLink RX6 31 "TunnelRing$Tube" "laid" "I") (List.mem_of_getElem? (i := 1) rfl)) (fun _ h9 => h9) rfl dX6_append_73 ?_
      refine x_iconst hx hb dX6_append_76 ?_
      refine x_iadd hx hb dX6_append_77 ?_
      obtain ⟨v_5, ev_5⟩ : ∃ z : Int, z = ld + 1 := ⟨_, rfl⟩
      refine x_top ev_5.symm ?_
      refine va_put (D := gD g) (ci := 9) (v := .int (iI v_5)) (ty := tyX6 5) (C := RX6) (T := TX6) (N := 6) hx hb hts hin6 tyX6 tyX6_ok nmX6 hown hK hP hD hS 0 rfl rfl 5 (by decide) (hts (.fieldLink RX6 31 "TunnelRing$Tube" "laid" "I") (List.mem_of_getElem? (i := 1) rfl)) (fun _ h9 => h9) rfl (tyX6_ok 5 (by decide)) rfl rfl (Nat.le_of_ble_eq_true rfl) dX6_append_78 (fun H locs hP hD hS => ?_)
      have hP : va_P (gD g) vwCl [(aT, .inr (9, [.ref aTp, .ref aTt, .ref aTx, .ref aTy, .ref aE, .int (iI v_5)])), (aTp, .inl (gI g, 200, .inl (ar (up tp ld po)))), (aTt, .inl (gI g, 200, .inl (ar (up tt ld ta)))), (aTx, .inl (gI g, 200, .inl (ar (up kx ld v_3)))), (aTy, .inl (gI g, 200, .inl (ar (up ky ld v_4)))), (aE, .inr (3, [.int (iI (ex + (ehx + ta * toSide po))), .int (iI (ey + (ehy + ta * upward po))), .int (iI (ehx + ta * toSide po)), .int (iI (ehy + ta * upward po))]))] H := hP
      have hD : va_D A [(aT, .inr (9, [.ref aTp, .ref aTt, .ref aTx, .ref aTy, .ref aE, .int (iI v_5)])), (aTp, .inl (gI g, 200, .inl (ar (up tp ld po)))), (aTt, .inl (gI g, 200, .inl (ar (up tt ld ta)))), (aTx, .inl (gI g, 200, .inl (ar (up kx ld v_3)))), (aTy, .inl (gI g, 200, .inl (ar (up ky ld v_4)))), (aE, .inr (3, [.int (iI (ex + (ehx + ta * toSide po))), .int (iI (ey + (ehy + ta * upward po))), .int (iI (ehx + ta * toSide po)), .int (iI (ehy + ta * upward po))]))] := hD
      have q_6 : (ld + 1) = v_5 := by
        first
        | (
           first | rfl | omega | (subst_vars; first | rfl | omega))
        | fail "q9"
      have q_7 : (up kx ld (ex + (ehx + ta * toSide po))) = (up kx ld v_3) := by
        first
        | (
           first | rfl | omega | (subst_vars; first | rfl | omega))
        | fail "q9"
      have q_8 : (up ky ld (ey + (ehy + ta * upward po))) = (up ky ld v_4) := by
        first
        | (
           first | rfl | omega | (subst_vars; first | rfl | omega))
        | fail "q9"
      have hw_9 := (congr (congr (congrArg (fun (z0 : Int) (z1 : Int → Int) (z2 : Int → Int) => ([(aT, .inr (9, [.ref aTp, .ref aTt, .ref aTx, .ref aTy, .ref aE, .int (iI z0)])), (aTp, .inl (gI g, 200, .inl (ar (up tp ld po)))), (aTt, .inl (gI g, 200, .inl (ar (up tt ld ta)))), (aTx, .inl (gI g, 200, .inl (ar z1))), (aTy, .inl (gI g, 200, .inl (ar z2))), (aE, .inr (3, [.int (iI (ex + (ehx + ta * toSide po))), .int (iI (ey + (ehy + ta * upward po))), .int (iI (ehx + ta * toSide po)), .int (iI (ehy + ta * upward po))]))] : va_W)) q_6.symm) q_7.symm) q_8.symm)
      rw [hQ9]
      exact x_vret hx hb hr hlocks hP hD hS (S := Unit) (Φ := _) (W1 := _) dX6_append_81 () trivial hw_9 (Nat.le_of_ble_eq_true rfl) (Nat.le_of_ble_eq_true rfl)
  rw [hH, hlo, hQ9] at goal_
  exact goal_

set_option maxHeartbeats 4000000 in
set_option maxRecDepth 100000 in
theorem c_X7_isFull (l : Launch) (g : xg) (sz : Nat) (aY aYh aYt aYc : Nat) (sta : Int) (ht : Int → Int) (hsta : 0 ≤ sta ∧ sta ≤ 2) (hb_ht : bnd ht 0 12) : Met l yX7_isFull wsX7_isFull { frames := 0, cells := 0, slots := 0, locals := 0 } (va_Pc [.ref aY, .int (iI sta)] (xB g [(aY, .inr (10, [.ref aYh, .ref aYt, .ref aYc])), (aYh, .inl (gI g, 3, .inl (ar ht)))] sz)) (va_Qi (fun r u => r = iI ((fun (u : Unit) => bI (ht sta = 12)) u) ∧ (fun (u : Unit) => True) u) (fun u t => xE g (va_A [(aY, .inr (10, [.ref aYh, .ref aYt, .ref aYc])), (aYh, .inl (gI g, 3, .inl (ar ht)))] sz) ((fun (u : Unit) => [(aY, .inr (10, [.ref aYh, .ref aYt, .ref aYc])), (aYh, .inl (gI g, 3, .inl (ar ht)))]) u) t) (va_A [(aY, .inr (10, [.ref aYh, .ref aYt, .ref aYc])), (aYh, .inl (gI g, 3, .inl (ar ht)))] sz)) 0 0 (va_A [(aY, .inr (10, [.ref aYh, .ref aYt, .ref aYc])), (aYh, .inl (gI g, 3, .inl (ar ht)))] sz) := by
  refine x_enter (y := yX7_isFull) (ws := wsX7_isFull) (g := g) (sz := sz) (av := [.ref aY, .int (iI sta)]) (WS := [(aY, .inr (10, [.ref aYh, .ref aYt, .ref aYc])), (aYh, .inl (gI g, 3, .inl (ar ht)))]) (cc := cX7_isFull) (maxL := 2) (ret := some .boolean) (Qc := (fun A => (va_Qi (fun r u => r = iI ((fun (u : Unit) => bI (ht sta = 12)) u) ∧ (fun (u : Unit) => True) u) (fun u t => xE g A ((fun (u : Unit) => [(aY, .inr (10, [.ref aYh, .ref aYt, .ref aYc])), (aYh, .inl (gI g, 3, .inl (ar ht)))]) u) t) A))) (by decide) rfl (Nat.le_of_ble_eq_true rfl) ?_
  intro p e s m args below meth c A ls hx hb hr hml hown hts hlocks hname hC hP hD hS hA hl
  have hK := hC.1
  have hown : s.vm.findClass RX7 = some m.cls := hown
  have hin7 : ∀ w ∈ u_ws RX7 TX7 3, w ∈ wsX7_isFull := by decide +kernel
  have hl : lv_has ls 2 [(0, .ref aY), (1, .int (iI sta))] := hl
  obtain ⟨H, hH⟩ : ∃ z, z = s.heap := ⟨_, rfl⟩
  obtain ⟨locs, hlo⟩ : ∃ z : List Loc, z = [] := ⟨_, rfl⟩
  obtain ⟨Q9, hQ9⟩ : ∃ z, z = MQ below (va_Qi (fun r u => r = iI ((fun (u : Unit) => bI (ht sta = 12)) u) ∧ (fun (u : Unit) => True) u) (fun u t => xE g A ((fun (u : Unit) => [(aY, .inr (10, [.ref aYh, .ref aYt, .ref aYc])), (aYh, .inl (gI g, 3, .inl (ar ht)))]) u) t) A) args s 0 0 A := ⟨_, rfl⟩
  have hP : va_P (gD g) vwCl [(aY, .inr (10, [.ref aYh, .ref aYt, .ref aYc])), (aYh, .inl (gI g, 3, .inl (ar ht)))] H := by rw [hH]; exact hP
  have hS : va_S A s.heap H locs := by rw [hH, hlo]; exact hS
  have goal_ : W p l e { frames := 0, cells := 0, slots := 0, locals := 0 } s m args below meth c H locs 0 0 Q9 (F0 m 0 ls []) := by
    clear hH hlo
    refine lv_aload_n hx hb dX7_isFull_0 rfl (lv_at hl 0 rfl) ?_
    refine va_get (D := gD g) (ci := 10) (v := .ref aYh) (C := RX7) (T := TX7) (N := 3) hx hb hts hin7 hown hK hP 0 rfl rfl 0 (by decide) (hts (.fieldLink RX7 9 "TunnelRing$Yard" "height" "[I") (List.mem_of_getElem? (i := 1) rfl)) (fun _ h9 => h9) rfl dX7_isFull_1 ?_
    refine lv_iload_n hx hb dX7_isFull_4 rfl (lv_at hl 1 rfl) ?_
    refine x_iald hx hb hK hP 1 0 rfl rfl (by omega) (by omega) (Nat.le_of_ble_eq_true rfl) dX7_isFull_5 (fun v_1 hv_1 => ?_)
    have bv_1 : 0 ≤ v_1 ∧ v_1 ≤ 12 := by rw [hv_1]; exact hb_ht _
    refine x_bipush hx hb dX7_isFull_6 (by decide) ?_
    refine x_cmp_lt (tgt := 15) hx hb (by omega) (by omega) dX7_isFull_8 (by decide) (fun c_2 => ?_) (fun c_2 => ?_)
    · skip
      refine x_iconst hx hb dX7_isFull_15 ?_
      rw [hQ9]
      exact x_iret hx hb hr hlocks hP hD hS (S := Unit) (by decide) dX7_isFull_16 () (by
          first
          | (
             subst_vars
             first | (rw [bI_t (by omega)]) | (rw [bI_f (by omega)]))
          | fail "q9") trivial rfl (Nat.le_of_ble_eq_true rfl) (Nat.le_of_ble_eq_true rfl)
    · skip
      refine x_iconst hx hb dX7_isFull_11 ?_
      refine lv_goto (tgt := 16) hx hb dX7_isFull_12 (by decide) ?_
      rw [hQ9]
      exact x_iret hx hb hr hlocks hP hD hS (S := Unit) (by decide) dX7_isFull_16 () (by
          first
          | (
             subst_vars
             first | (rw [bI_t (by omega)]) | (rw [bI_f (by omega)]))
          | fail "q9") trivial rfl (Nat.le_of_ble_eq_true rfl) (Nat.le_of_ble_eq_true rfl)
  rw [hH, hlo, hQ9] at goal_
  exact goal_

set_option maxHeartbeats 4000000 in
set_option maxRecDepth 100000 in
theorem c_X7_put (l : Launch) (g : xg) (sz : Nat) (aY aYh aYt aYc : Nat) (sta nt ch0 : Int) (ht yt yc : Int → Int) (hsta : 0 ≤ sta ∧ sta ≤ 2) (hb_ht : bnd ht 0 12) (hroom : ht sta < 12) : Met l yX7_put wsX7_put { frames := 0, cells := 0, slots := 0, locals := 0 } (va_Pc [.ref aY, .int (iI sta), .int (iI nt), .int (iI ch0)] (xB g [(aY, .inr (10, [.ref aYh, .ref aYt, .ref aYc])), (aYh, .inl (gI g, 3, .inl (ar ht))), (aYt, .inl (gI g, 36, .inl (ar yt))), (aYc, .inl (gI g, 36, .inl (ar yc)))] sz)) (va_Qv (fun (u : Unit) => True) (fun u t => xE g (va_A [(aY, .inr (10, [.ref aYh, .ref aYt, .ref aYc])), (aYh, .inl (gI g, 3, .inl (ar ht))), (aYt, .inl (gI g, 36, .inl (ar yt))), (aYc, .inl (gI g, 36, .inl (ar yc)))] sz) ((fun (u : Unit) => [(aY, .inr (10, [.ref aYh, .ref aYt, .ref aYc])), (aYh, .inl (gI g, 3, .inl (ar (up ht sta (ht sta + 1))))), (aYt, .inl (gI g, 36, .inl (ar (up yt (sta * 12 + ht sta) nt)))), (aYc, .inl (gI g, 36, .inl (ar (up yc (sta * 12 + ht sta) ch0))))]) u) t) (va_A [(aY, .inr (10, [.ref aYh, .ref aYt, .ref aYc])), (aYh, .inl (gI g, 3, .inl (ar ht))), (aYt, .inl (gI g, 36, .inl (ar yt))), (aYc, .inl (gI g, 36, .inl (ar yc)))] sz)) 0 0 (va_A [(aY, .inr (10, [.ref aYh, .ref aYt, .ref aYc])), (aYh, .inl (gI g, 3, .inl (ar ht))), (aYt, .inl (gI g, 36, .inl (ar yt))), (aYc, .inl (gI g, 36, .inl (ar yc)))] sz) := by
  refine x_enter (y := yX7_put) (ws := wsX7_put) (g := g) (sz := sz) (av := [.ref aY, .int (iI sta), .int (iI nt), .int (iI ch0)]) (WS := [(aY, .inr (10, [.ref aYh, .ref aYt, .ref aYc])), (aYh, .inl (gI g, 3, .inl (ar ht))), (aYt, .inl (gI g, 36, .inl (ar yt))), (aYc, .inl (gI g, 36, .inl (ar yc)))]) (cc := cX7_put) (maxL := 5) (ret := none) (Qc := (fun A => (va_Qv (fun (u : Unit) => True) (fun u t => xE g A ((fun (u : Unit) => [(aY, .inr (10, [.ref aYh, .ref aYt, .ref aYc])), (aYh, .inl (gI g, 3, .inl (ar (up ht sta (ht sta + 1))))), (aYt, .inl (gI g, 36, .inl (ar (up yt (sta * 12 + ht sta) nt)))), (aYc, .inl (gI g, 36, .inl (ar (up yc (sta * 12 + ht sta) ch0))))]) u) t) A))) (by decide) rfl (Nat.le_of_ble_eq_true rfl) ?_
  intro p e s m args below meth c A ls hx hb hr hml hown hts hlocks hname hC hP hD hS hA hl
  have hK := hC.1
  have hown : s.vm.findClass RX7 = some m.cls := hown
  have hin7 : ∀ w ∈ u_ws RX7 TX7 3, w ∈ wsX7_put := by decide +kernel
  have hl : lv_has ls 5 [(0, .ref aY), (1, .int (iI sta)), (2, .int (iI nt)), (3, .int (iI ch0))] := hl
  obtain ⟨H, hH⟩ : ∃ z, z = s.heap := ⟨_, rfl⟩
  obtain ⟨locs, hlo⟩ : ∃ z : List Loc, z = [] := ⟨_, rfl⟩
  obtain ⟨Q9, hQ9⟩ : ∃ z, z = MQ below (va_Qv (fun (u : Unit) => True) (fun u t => xE g A ((fun (u : Unit) => [(aY, .inr (10, [.ref aYh, .ref aYt, .ref aYc])), (aYh, .inl (gI g, 3, .inl (ar (up ht sta (ht sta + 1))))), (aYt, .inl (gI g, 36, .inl (ar (up yt (sta * 12 + ht sta) nt)))), (aYc, .inl (gI g, 36, .inl (ar (up yc (sta * 12 + ht sta) ch0))))]) u) t) A) args s 0 0 A := ⟨_, rfl⟩
  have hP : va_P (gD g) vwCl [(aY, .inr (10, [.ref aYh, .ref aYt, .ref aYc])), (aYh, .inl (gI g, 3, .inl (ar ht))), (aYt, .inl (gI g, 36, .inl (ar yt))), (aYc, .inl (gI g, 36, .inl (ar yc)))] H := by rw [hH]; exact hP
  have hS : va_S A s.heap H locs := by rw [hH, hlo]; exact hS
  have goal_ : W p l e { frames := 0, cells := 0, slots := 0, locals := 0 } s m args below meth c H locs 0 0 Q9 (F0 m 0 ls []) := by
    clear hH hlo
    refine lv_iload_n hx hb dX7_put_0 rfl (lv_at hl 1 rfl) ?_
    refine x_bipush hx hb dX7_put_1 (by decide) ?_
    refine x_imul hx hb dX7_put_3 ?_
    refine lv_aload_n hx hb dX7_put_4 rfl (lv_at hl 0 rfl) ?_
    refine va_get (D := gD g) (ci := 10) (v := .ref aYh) (C := RX7) (T := TX7) (N := 3) hx hb hts hin7 hown hK hP 0 rfl rfl 0 (by decide) (hts (.fieldLink RX7 9 "TunnelRing$Yard" "height" "[I") (List.mem_of_getElem? (i := 1) rfl)) (fun _ h9 => h9) rfl dX7_put_5 ?_
    refine lv_iload_n hx hb dX7_put_8 rfl (lv_at hl 1 rfl) ?_
    refine x_iald hx hb hK hP 1 0 rfl rfl (by omega) (by omega) (Nat.le_of_ble_eq_true rfl) dX7_put_9 (fun v_1 hv_1 => ?_)
    have bv_1 : 0 ≤ v_1 ∧ v_1 ≤ 12 := by rw [hv_1]; exact hb_ht _
    refine x_iadd hx hb dX7_put_10 ?_
    obtain ⟨v_2, ev_2⟩ : ∃ z : Int, z = (sta * 12) + v_1 := ⟨_, rfl⟩
    refine x_top ev_2.symm ?_
    refine lv_istore (lv' := [(4, .int (iI v_2)), (0, .ref aY), (1, .int (iI sta)), (2, .int (iI nt)), (3, .int (iI ch0))]) hx hb dX7_put_11 hl (by decide) rfl (fun ls hl => ?_)
    refine lv_aload_n hx hb dX7_put_13 rfl (lv_at hl 1 rfl) ?_
    refine va_get (D := gD g) (ci := 10) (v := .ref aYt) (C := RX7) (T := TX7) (N := 3) hx hb hts hin7 hown hK hP 0 rfl rfl 1 (by decide) (hts (.fieldLink RX7 15 "TunnelRing$Yard" "taper" "[I") (List.mem_of_getElem? (i := 2) rfl)) (fun _ h9 => h9) rfl dX7_put_14 ?_
    refine lv_iload hx hb dX7_put_17 (lv_at hl 0 rfl) ?_
    refine lv_iload_n hx hb dX7_put_19 rfl (lv_at hl 3 rfl) ?_
    refine x_iast hx hb hK hP hD hS 2 0 rfl rfl (by omega) (by omega) (Nat.le_of_ble_eq_true rfl) dX7_put_20 (fun H locs hP hD hS => ?_)
    have hP : va_P (gD g) vwCl [(aY, .inr (10, [.ref aYh, .ref aYt, .ref aYc])), (aYh, .inl (gI g, 3, .inl (ar ht))), (aYt, .inl (gI g, 36, .inl (ar (up yt v_2 nt)))), (aYc, .inl (gI g, 36, .inl (ar yc)))] H := hP
    have hD : va_D A [(aY, .inr (10, [.ref aYh, .ref aYt, .ref aYc])), (aYh, .inl (gI g, 3, .inl (ar ht))), (aYt, .inl (gI g, 36, .inl (ar (up yt v_2 nt)))), (aYc, .inl (gI g, 36, .inl (ar yc)))] := hD
    refine lv_aload_n hx hb dX7_put_21 rfl (lv_at hl 1 rfl) ?_
    refine va_get (D := gD g) (ci := 10) (v := .ref aYc) (C := RX7) (T := TX7) (N := 3) hx hb hts hin7 hown hK hP 0 rfl rfl 2 (by decide) (hts (.fieldLink RX7 18 "TunnelRing$Yard" "castAt" "[I") (List.mem_of_getElem? (i := 3) rfl)) (fun _ h9 => h9) rfl dX7_put_22 ?_
    refine lv_iload hx hb dX7_put_25 (lv_at hl 0 rfl) ?_
    refine lv_iload_n hx hb dX7_put_27 rfl (lv_at hl 4 rfl) ?_
    refine x_iast hx hb hK hP hD hS 3 0 rfl rfl (by omega) (by omega) (Nat.le_of_ble_eq_true rfl) dX7_put_28 (fun H locs hP hD hS => ?_)
    have hP : va_P (gD g) vwCl [(aY, .inr (10, [.ref aYh, .ref aYt, .ref aYc])), (aYh, .inl (gI g, 3, .inl (ar ht))), (aYt, .inl (gI g, 36, .inl (ar (up yt v_2 nt)))), (aYc, .inl (gI g, 36, .inl (ar (up yc v_2 ch0))))] H := hP
    have hD : va_D A [(aY, .inr (10, [.ref aYh, .ref aYt, .ref aYc])), (aYh, .inl (gI g, 3, .inl (ar ht))), (aYt, .inl (gI g, 36, .inl (ar (up yt v_2 nt)))), (aYc, .inl (gI g, 36, .inl (ar (up yc v_2 ch0))))] := hD
    refine lv_aload_n hx hb dX7_put_29 rfl (lv_at hl 1 rfl) ?_
    refine va_get (D := gD g) (ci := 10) (v := .ref aYh) (C := RX7) (T := TX7) (N := 3) hx hb hts hin7 hown hK hP 0 rfl rfl 0 (by decide) (hts (.fieldLink RX7 9 "TunnelRing$Yard" "height" "[I") (List.mem_of_getElem? (i := 1) rfl)) (fun _ h9 => h9) rfl dX7_put_30 ?_
    refine lv_iload_n hx hb dX7_put_33 rfl (lv_at hl 2 rfl) ?_
    refine lv_dup2_11 hx hb dX7_put_34 rfl rfl ?_
    refine x_iald hx hb hK hP 1 0 rfl rfl (by omega) (by omega) (Nat.le_of_ble_eq_true rfl) dX7_put_35 (fun v_3 hv_3 => ?_)
    have bv_3 : 0 ≤ v_3 ∧ v_3 ≤ 12 := by rw [hv_3]; exact hb_ht _
    refine x_iconst hx hb dX7_put_36 ?_
    refine x_iadd hx hb dX7_put_37 ?_
    obtain ⟨v_4, ev_4⟩ : ∃ z : Int, z = v_3 + 1 := ⟨_, rfl⟩
    refine x_top ev_4.symm ?_
    refine x_iast hx hb hK hP hD hS 1 0 rfl rfl (by omega) (by omega) (Nat.le_of_ble_eq_true rfl) dX7_put_38 (fun H locs hP hD hS => ?_)
    have hP : va_P (gD g) vwCl [(aY, .inr (10, [.ref aYh, .ref aYt, .ref aYc])), (aYh, .inl (gI g, 3, .inl (ar (up ht sta v_4)))), (aYt, .inl (gI g, 36, .inl (ar (up yt v_2 nt)))), (aYc, .inl (gI g, 36, .inl (ar (up yc v_2 ch0))))] H := hP
    have hD : va_D A [(aY, .inr (10, [.ref aYh, .ref aYt, .ref aYc])), (aYh, .inl (gI g, 3, .inl (ar (up ht sta v_4)))), (aYt, .inl (gI g, 36, .inl (ar (up yt v_2 nt)))), (aYc, .inl (gI g, 36, .inl (ar (up yc v_2 ch0))))] := hD
    have q_5 : (up ht sta (ht sta + 1)) = (up ht sta v_4) := by
      first
      | (
         first | rfl | omega | (subst_vars; first | rfl | omega))
      | fail "q9"
    have q_6 : (up yt (sta * 12 + ht sta) nt) = (up yt v_2 nt) := by
      first
      | (
         first | rfl | omega | (subst_vars; first | rfl | omega))
      | fail "q9"
    have q_7 : (up yc (sta * 12 + ht sta) ch0) = (up yc v_2 ch0) := by
      first
      | (
         first | rfl | omega | (subst_vars; first | rfl | omega))
      | fail "q9"
    have hw_8 := (congr (congr (congrArg (fun (z0 : Int → Int) (z1 : Int → Int) (z2 : Int → Int) => ([(aY, .inr (10, [.ref aYh, .ref aYt, .ref aYc])), (aYh, .inl (gI g, 3, .inl (ar z0))), (aYt, .inl (gI g, 36, .inl (ar z1))), (aYc, .inl (gI g, 36, .inl (ar z2)))] : va_W)) q_5.symm) q_6.symm) q_7.symm)
    rw [hQ9]
    exact x_vret hx hb hr hlocks hP hD hS (S := Unit) (Φ := _) (W1 := _) dX7_put_39 () trivial hw_8 (Nat.le_of_ble_eq_true rfl) (Nat.le_of_ble_eq_true rfl)
  rw [hH, hlo, hQ9] at goal_
  exact goal_

set_option maxHeartbeats 4000000 in
set_option maxRecDepth 100000 in
theorem c_X7_taperIn (l : Launch) (g : xg) (sz : Nat) (aY aYh aYt aYc : Nat) (sta pl : Int) (yt : Int → Int) (hsta : 0 ≤ sta ∧ sta ≤ 2) (hpl : 0 ≤ pl ∧ pl < 12) : Met l yX7_taperIn wsX7_taperIn { frames := 0, cells := 0, slots := 0, locals := 0 } (va_Pc [.ref aY, .int (iI sta), .int (iI pl)] (xB g [(aY, .inr (10, [.ref aYh, .ref aYt, .ref aYc])), (aYt, .inl (gI g, 36, .inl (ar yt)))] sz)) (va_Qi (fun r u => r = iI ((fun (u : Unit) => yt (sta * 12 + pl)) u) ∧ (fun (u : Unit) => True) u) (fun u t => xE g (va_A [(aY, .inr (10, [.ref aYh, .ref aYt, .ref aYc])), (aYt, .inl (gI g, 36, .inl (ar yt)))] sz) ((fun (u : Unit) => [(aY, .inr (10, [.ref aYh, .ref aYt, .ref aYc])), (aYt, .inl (gI g, 36, .inl (ar yt)))]) u) t) (va_A [(aY, .inr (10, [.ref aYh, .ref aYt, .ref aYc])), (aYt, .inl (gI g, 36, .inl (ar yt)))] sz)) 0 0 (va_A [(aY, .inr (10, [.ref aYh, .ref aYt, .ref aYc])), (aYt, .inl (gI g, 36, .inl (ar yt)))] sz) := by
  refine x_enter (y := yX7_taperIn) (ws := wsX7_taperIn) (g := g) (sz := sz) (av := [.ref aY, .int (iI sta), .int (iI pl)]) (WS := [(aY, .inr (10, [.ref aYh, .ref aYt, .ref aYc])), (aYt, .inl (gI g, 36, .inl (ar yt)))]) (cc := cX7_taperIn) (maxL := 3) (ret := some .int) (Qc := (fun A => (va_Qi (fun r u => r = iI ((fun (u : Unit) => yt (sta * 12 + pl)) u) ∧ (fun (u : Unit) => True) u) (fun u t => xE g A ((fun (u : Unit) => [(aY, .inr (10, [.ref aYh, .ref aYt, .ref aYc])), (aYt, .inl (gI g, 36, .inl (ar yt)))]) u) t) A))) (by decide) rfl (Nat.le_of_ble_eq_true rfl) ?_
  intro p e s m args below meth c A ls hx hb hr hml hown hts hlocks hname hC hP hD hS hA hl
  have hK := hC.1
  have hown : s.vm.findClass RX7 = some m.cls := hown
  have hin7 : ∀ w ∈ u_ws RX7 TX7 3, w ∈ wsX7_taperIn := by decide +kernel
  have hl : lv_has ls 3 [(0, .ref aY), (1, .int (iI sta)), (2, .int (iI pl))] := hl
  obtain ⟨H, hH⟩ : ∃ z, z = s.heap := ⟨_, rfl⟩
  obtain ⟨locs, hlo⟩ : ∃ z : List Loc, z = [] := ⟨_, rfl⟩
  obtain ⟨Q9, hQ9⟩ : ∃ z, z = MQ below (va_Qi (fun r u => r = iI ((fun (u : Unit) => yt (sta * 12 + pl)) u) ∧ (fun (u : Unit) => True) u) (fun u t => xE g A ((fun (u : Unit) => [(aY, .inr (10, [.ref aYh, .ref aYt, .ref aYc])), (aYt, .inl (gI g, 36, .inl (ar yt)))]) u) t) A) args s 0 0 A := ⟨_, rfl⟩
  have hP : va_P (gD g) vwCl [(aY, .inr (10, [.ref aYh, .ref aYt, .ref aYc])), (aYt, .inl (gI g, 36, .inl (ar yt)))] H := by rw [hH]; exact hP
  have hS : va_S A s.heap H locs := by rw [hH, hlo]; exact hS
  have goal_ : W p l e { frames := 0, cells := 0, slots := 0, locals := 0 } s m args below meth c H locs 0 0 Q9 (F0 m 0 ls []) := by
    clear hH hlo
    refine lv_aload_n hx hb dX7_taperIn_0 rfl (lv_at hl 0 rfl) ?_
    refine va_get (D := gD g) (ci := 10) (v := .ref aYt) (C := RX7) (T := TX7) (N := 3) hx hb hts hin7 hown hK hP 0 rfl rfl 1 (by decide) (hts (.fieldLink RX7 15 "TunnelRing$Yard" "taper" "[I") (List.mem_of_getElem? (i := 1) rfl)) (fun _ h9 => h9) rfl dX7_taperIn_1 ?_
    refine lv_iload_n hx hb dX7_taperIn_4 rfl (lv_at hl 1 rfl) ?_
    refine x_bipush hx hb dX7_taperIn_5 (by decide) ?_
    refine x_imul hx hb dX7_taperIn_7 ?_
    refine lv_iload_n hx hb dX7_taperIn_8 rfl (lv_at hl 2 rfl) ?_
    refine x_iadd hx hb dX7_taperIn_9 ?_
    refine x_iald hx hb hK hP 1 0 rfl rfl (by omega) (by omega) (Nat.le_of_ble_eq_true rfl) dX7_taperIn_10 (fun v_1 hv_1 => ?_)
    rw [hQ9]
    exact x_iret hx hb hr hlocks hP hD hS (S := Unit) rfl dX7_taperIn_11 () (by
        first
        | (
           first | rfl | omega | (subst_vars; first | rfl | omega))
        | fail "q9") trivial rfl (Nat.le_of_ble_eq_true rfl) (Nat.le_of_ble_eq_true rfl)
  rw [hH, hlo, hQ9] at goal_
  exact goal_

set_option maxHeartbeats 4000000 in
set_option maxRecDepth 100000 in
theorem c_X7_topTaper (l : Launch) (g : xg) (sz : Nat) (aY aYh aYt aYc : Nat) (sta : Int) (ht yt : Int → Int) (hsta : 0 ≤ sta ∧ sta ≤ 2) (hb_ht : bnd ht 0 12) (hne : 0 < ht sta) : Met l yX7_topTaper wsX7_topTaper { frames := 1, cells := 0, slots := 0, locals := 22 } (va_Pc [.ref aY, .int (iI sta)] (xB g [(aY, .inr (10, [.ref aYh, .ref aYt, .ref aYc])), (aYh, .inl (gI g, 3, .inl (ar ht))), (aYt, .inl (gI g, 36, .inl (ar yt)))] sz)) (va_Qi (fun r u => r = iI ((fun (u : Unit) => yt (sta * 12 + (ht sta - 1))) u) ∧ (fun (u : Unit) => True) u) (fun u t => xE g (va_A [(aY, .inr (10, [.ref aYh, .ref aYt, .ref aYc])), (aYh, .inl (gI g, 3, .inl (ar ht))), (aYt, .inl (gI g, 36, .inl (ar yt)))] sz) ((fun (u : Unit) => [(aY, .inr (10, [.ref aYh, .ref aYt, .ref aYc])), (aYh, .inl (gI g, 3, .inl (ar ht))), (aYt, .inl (gI g, 36, .inl (ar yt)))]) u) t) (va_A [(aY, .inr (10, [.ref aYh, .ref aYt, .ref aYc])), (aYh, .inl (gI g, 3, .inl (ar ht))), (aYt, .inl (gI g, 36, .inl (ar yt)))] sz)) 0 0 (va_A [(aY, .inr (10, [.ref aYh, .ref aYt, .ref aYc])), (aYh, .inl (gI g, 3, .inl (ar ht))), (aYt, .inl (gI g, 36, .inl (ar yt)))] sz) := by
  refine x_enter (y := yX7_topTaper) (ws := wsX7_topTaper) (g := g) (sz := sz) (av := [.ref aY, .int (iI sta)]) (WS := [(aY, .inr (10, [.ref aYh, .ref aYt, .ref aYc])), (aYh, .inl (gI g, 3, .inl (ar ht))), (aYt, .inl (gI g, 36, .inl (ar yt)))]) (cc := cX7_topTaper) (maxL := 2) (ret := some .int) (Qc := (fun A => (va_Qi (fun r u => r = iI ((fun (u : Unit) => yt (sta * 12 + (ht sta - 1))) u) ∧ (fun (u : Unit) => True) u) (fun u t => xE g A ((fun (u : Unit) => [(aY, .inr (10, [.ref aYh, .ref aYt, .ref aYc])), (aYh, .inl (gI g, 3, .inl (ar ht))), (aYt, .inl (gI g, 36, .inl (ar yt)))]) u) t) A))) (by decide) rfl (Nat.le_of_ble_eq_true rfl) ?_
  intro p e s m args below meth c A ls hx hb hr hml hown hts hlocks hname hC hP hD hS hA hl
  have hK := hC.1
  have hown : s.vm.findClass RX7 = some m.cls := hown
  have hin7 : ∀ w ∈ u_ws RX7 TX7 3, w ∈ wsX7_topTaper := by decide +kernel
  have hl : lv_has ls 2 [(0, .ref aY), (1, .int (iI sta))] := hl
  obtain ⟨H, hH⟩ : ∃ z, z = s.heap := ⟨_, rfl⟩
  obtain ⟨locs, hlo⟩ : ∃ z : List Loc, z = [] := ⟨_, rfl⟩
  obtain ⟨Q9, hQ9⟩ : ∃ z, z = MQ below (va_Qi (fun r u => r = iI ((fun (u : Unit) => yt (sta * 12 + (ht sta - 1))) u) ∧ (fun (u : Unit) => True) u) (fun u t => xE g A ((fun (u : Unit) => [(aY, .inr (10, [.ref aYh, .ref aYt, .ref aYc])), (aYh, .inl (gI g, 3, .inl (ar ht))), (aYt, .inl (gI g, 36, .inl (ar yt)))]) u) t) A) args s 0 0 A := ⟨_, rfl⟩
  have hP : va_P (gD g) vwCl [(aY, .inr (10, [.ref aYh, .ref aYt, .ref aYc])), (aYh, .inl (gI g, 3, .inl (ar ht))), (aYt, .inl (gI g, 36, .inl (ar yt)))] H := by rw [hH]; exact hP
  have hS : va_S A s.heap H locs := by rw [hH, hlo]; exact hS
  have goal_ : W p l e { frames := 1, cells := 0, slots := 0, locals := 22 } s m args below meth c H locs 0 0 Q9 (F0 m 0 ls []) := by
    clear hH hlo
    refine lv_aload_n hx hb dX7_topTaper_0 rfl (lv_at hl 0 rfl) ?_
    refine lv_iload_n hx hb dX7_topTaper_1 rfl (lv_at hl 1 rfl) ?_
    refine lv_aload_n hx hb dX7_topTaper_2 rfl (lv_at hl 0 rfl) ?_
    refine va_get (D := gD g) (ci := 10) (v := .ref aYh) (C := RX7) (T := TX7) (N := 3) hx hb hts hin7 hown hK hP 0 rfl rfl 0 (by decide) (hts (.fieldLink RX7 9 "TunnelRing$Yard" "height" "[I") (List.mem_of_getElem? (i := 1) rfl)) (fun _ h9 => h9) rfl dX7_topTaper_3 ?_
    refine lv_iload_n hx hb dX7_topTaper_6 rfl (lv_at hl 1 rfl) ?_
    refine x_iald hx hb hK hP 1 0 rfl rfl (by omega) (by omega) (Nat.le_of_ble_eq_true rfl) dX7_topTaper_7 (fun v_1 hv_1 => ?_)
    have bv_1 : 0 ≤ v_1 ∧ v_1 ≤ 12 := by rw [hv_1]; exact hb_ht _
    refine x_iconst hx hb dX7_topTaper_8 ?_
    refine x_isub hx hb dX7_topTaper_9 ?_
    refine x_calli (S := Unit) (wc := [(aY, .inr (10, [.ref aYh, .ref aYt, .ref aYc])), (aYt, .inl (gI g, 36, .inl (ar yt)))]) (wr := [(aYh, .inl (gI g, 3, .inl (ar ht)))]) hC hP hD hS hA [0, 2] [1] [1, 0, 2] rfl rfl (fun hpre => va_runV (As := [.int (iI sta), .int (iI (v_1 - 1))]) (rest := []) ⟨hx, hb, hml, hown, hts⟩ (c_X7_taperIn l g H.size aY aYh aYt aYc sta (v_1 - 1) yt (by first | (first | assumption | omega | exact bnd_up (by assumption) (by omega) (by omega)) | fail "q8") (by first | (first | assumption | omega | exact bnd_up (by assumption) (by omega) (by omega)) | fail "q8")) (cwV 2 hts gX7_topTaper_X7_taperIn rfl rfl rfl (by decide +kernel) ⟨Nat.le_of_ble_eq_true rfl, Nat.le_of_ble_eq_true rfl⟩) ⟨xB_blind, va_recv hK hP (ci := 10) (q0 := 0) rfl rfl, hpre _⟩ rfl rfl hl.1 rfl (lv_room (Nat.le_of_ble_eq_true rfl)) dX7_topTaper_10 ⟨Nat.le_of_ble_eq_true rfl, Nat.le_of_ble_eq_true rfl⟩) (fun (u : Unit) => [(aY, .inr (10, [.ref aYh, .ref aYt, .ref aYc])), (aYh, .inl (gI g, 3, .inl (ar ht))), (aYt, .inl (gI g, 36, .inl (ar yt)))]) rfl rfl (by decide) (fun _ => rfl) rfl (fun u v_2 H locs hv_2 pv_2 hP hD hS => ?_)
    have hP : va_P (gD g) vwCl [(aY, .inr (10, [.ref aYh, .ref aYt, .ref aYc])), (aYh, .inl (gI g, 3, .inl (ar ht))), (aYt, .inl (gI g, 36, .inl (ar yt)))] H := hP
    have hD : va_D A [(aY, .inr (10, [.ref aYh, .ref aYt, .ref aYc])), (aYh, .inl (gI g, 3, .inl (ar ht))), (aYt, .inl (gI g, 36, .inl (ar yt)))] := hD
    have hv_2 : v_2 = yt (sta * 12 + (v_1 - 1)) := hv_2
    rw [hQ9]
    exact x_iret hx hb hr hlocks hP hD hS (S := Unit) rfl dX7_topTaper_13 () (by
        first
        | (
           first | rfl | omega | (subst_vars; first | rfl | omega))
        | fail "q9") trivial rfl (Nat.le_of_ble_eq_true rfl) (Nat.le_of_ble_eq_true rfl)
  rw [hH, hlo, hQ9] at goal_
  exact goal_

set_option maxHeartbeats 4000000 in
set_option maxRecDepth 100000 in
theorem c_X7_takeTop (l : Launch) (g : xg) (sz : Nat) (aY aYh aYt aYc : Nat) (sta : Int) (ht : Int → Int) (hsta : 0 ≤ sta ∧ sta ≤ 2) (hb_ht : bnd ht 0 12) : Met l yX7_takeTop wsX7_takeTop { frames := 0, cells := 0, slots := 0, locals := 0 } (va_Pc [.ref aY, .int (iI sta)] (xB g [(aY, .inr (10, [.ref aYh, .ref aYt, .ref aYc])), (aYh, .inl (gI g, 3, .inl (ar ht)))] sz)) (va_Qv (fun (u : Unit) => True) (fun u t => xE g (va_A [(aY, .inr (10, [.ref aYh, .ref aYt, .ref aYc])), (aYh, .inl (gI g, 3, .inl (ar ht)))] sz) ((fun (u : Unit) => [(aY, .inr (10, [.ref aYh, .ref aYt, .ref aYc])), (aYh, .inl (gI g, 3, .inl (ar (up ht sta (ht sta - 1)))))]) u) t) (va_A [(aY, .inr (10, [.ref aYh, .ref aYt, .ref aYc])), (aYh, .inl (gI g, 3, .inl (ar ht)))] sz)) 0 0 (va_A [(aY, .inr (10, [.ref aYh, .ref aYt, .ref aYc])), (aYh, .inl (gI g, 3, .inl (ar ht)))] sz) := by
  refine x_enter (y := yX7_takeTop) (ws := wsX7_takeTop) (g := g) (sz := sz) (av := [.ref aY, .int (iI sta)]) (WS := [(aY, .inr (10, [.ref aYh, .ref aYt, .ref aYc])), (aYh, .inl (gI g, 3, .inl (ar ht)))]) (cc := cX7_takeTop) (maxL := 2) (ret := none) (Qc := (fun A => (va_Qv (fun (u : Unit) => True) (fun u t => xE g A ((fun (u : Unit) => [(aY, .inr (10, [.ref aYh, .ref aYt, .ref aYc])), (aYh, .inl (gI g, 3, .inl (ar (up ht sta (ht sta - 1)))))]) u) t) A))) (by decide) rfl (Nat.le_of_ble_eq_true rfl) ?_
  intro p e s m args below meth c A ls hx hb hr hml hown hts hlocks hname hC hP hD hS hA hl
  have hK := hC.1
  have hown : s.vm.findClass RX7 = some m.cls := hown
  have hin7 : ∀ w ∈ u_ws RX7 TX7 3, w ∈ wsX7_takeTop := by decide +kernel
  have hl : lv_has ls 2 [(0, .ref aY), (1, .int (iI sta))] := hl
  obtain ⟨H, hH⟩ : ∃ z, z = s.heap := ⟨_, rfl⟩
  obtain ⟨locs, hlo⟩ : ∃ z : List Loc, z = [] := ⟨_, rfl⟩
  obtain ⟨Q9, hQ9⟩ : ∃ z, z = MQ below (va_Qv (fun (u : Unit) => True) (fun u t => xE g A ((fun (u : Unit) => [(aY, .inr (10, [.ref aYh, .ref aYt, .ref aYc])), (aYh, .inl (gI g, 3, .inl (ar (up ht sta (ht sta - 1)))))]) u) t) A) args s 0 0 A := ⟨_, rfl⟩
  have hP : va_P (gD g) vwCl [(aY, .inr (10, [.ref aYh, .ref aYt, .ref aYc])), (aYh, .inl (gI g, 3, .inl (ar ht)))] H := by rw [hH]; exact hP
  have hS : va_S A s.heap H locs := by rw [hH, hlo]; exact hS
  have goal_ : W p l e { frames := 0, cells := 0, slots := 0, locals := 0 } s m args below meth c H locs 0 0 Q9 (F0 m 0 ls []) := by
    clear hH hlo
    refine lv_aload_n hx hb dX7_takeTop_0 rfl (lv_at hl 0 rfl) ?_
    refine va_get (D := gD g) (ci := 10) (v := .ref aYh) (C := RX7) (T := TX7) (N := 3) hx hb hts hin7 hown hK hP 0 rfl rfl 0 (by decide) (hts (.fieldLink RX7 9 "TunnelRing$Yard" "height" "[I") (List.mem_of_getElem? (i := 1) rfl)) (fun _ h9 => h9) rfl dX7_takeTop_1 ?_
    refine lv_iload_n hx hb dX7_takeTop_4 rfl (lv_at hl 1 rfl) ?_
    refine lv_dup2_11 hx hb dX7_takeTop_5 rfl rfl ?_
    refine x_iald hx hb hK hP 1 0 rfl rfl (by omega) (by omega) (Nat.le_of_ble_eq_true rfl) dX7_takeTop_6 (fun v_1 hv_1 => ?_)
    have bv_1 : 0 ≤ v_1 ∧ v_1 ≤ 12 := by rw [hv_1]; exact hb_ht _
    refine x_iconst hx hb dX7_takeTop_7 ?_
    refine x_isub hx hb dX7_takeTop_8 ?_
    obtain ⟨v_2, ev_2⟩ : ∃ z : Int, z = v_1 - 1 := ⟨_, rfl⟩
    refine x_top ev_2.symm ?_
    refine x_iast hx hb hK hP hD hS 1 0 rfl rfl (by omega) (by omega) (Nat.le_of_ble_eq_true rfl) dX7_takeTop_9 (fun H locs hP hD hS => ?_)
    have hP : va_P (gD g) vwCl [(aY, .inr (10, [.ref aYh, .ref aYt, .ref aYc])), (aYh, .inl (gI g, 3, .inl (ar (up ht sta v_2))))] H := hP
    have hD : va_D A [(aY, .inr (10, [.ref aYh, .ref aYt, .ref aYc])), (aYh, .inl (gI g, 3, .inl (ar (up ht sta v_2))))] := hD
    have q_3 : (up ht sta (ht sta - 1)) = (up ht sta v_2) := by
      first
      | (
         first | rfl | omega | (subst_vars; first | rfl | omega))
      | fail "q9"
    have hw_4 := (congrArg (fun (z0 : Int → Int) => ([(aY, .inr (10, [.ref aYh, .ref aYt, .ref aYc])), (aYh, .inl (gI g, 3, .inl (ar z0)))] : va_W)) q_3.symm)
    rw [hQ9]
    exact x_vret hx hb hr hlocks hP hD hS (S := Unit) (Φ := _) (W1 := _) dX7_takeTop_10 () trivial hw_4 (Nat.le_of_ble_eq_true rfl) (Nat.le_of_ble_eq_true rfl)
  rw [hH, hlo, hQ9] at goal_
  exact goal_

set_option maxHeartbeats 4000000 in
set_option maxRecDepth 100000 in
theorem c_X7_move (l : Launch) (g : xg) (sz : Nat) (aY aYh aYt aYc : Nat) (sta stb : Int) (ht yt yc : Int → Int) (hsta : 0 ≤ sta ∧ sta ≤ 2) (hstb : 0 ≤ stb ∧ stb ≤ 2) (hne2 : sta ≠ stb) (hb_ht : bnd ht 0 12) (hne : 0 < ht sta) (hroom : ht stb < 12) : Met l yX7_move wsX7_move { frames := 1, cells := 0, slots := 0, locals := 24 } (va_Pc [.ref aY, .int (iI sta), .int (iI stb)] (xB g [(aY, .inr (10, [.ref aYh, .ref aYt, .ref aYc])), (aYh, .inl (gI g, 3, .inl (ar ht))), (aYt, .inl (gI g, 36, .inl (ar yt))), (aYc, .inl (gI g, 36, .inl (ar yc)))] sz)) (va_Qv (fun (u : Unit) => True) (fun u t => xE g (va_A [(aY, .inr (10, [.ref aYh, .ref aYt, .ref aYc])), (aYh, .inl (gI g, 3, .inl (ar ht))), (aYt, .inl (gI g, 36, .inl (ar yt))), (aYc, .inl (gI g, 36, .inl (ar yc)))] sz) ((fun (u : Unit) => [(aY, .inr (10, [.ref aYh, .ref aYt, .ref aYc])), (aYh, .inl (gI g, 3, .inl (ar (up (up ht sta (ht sta - 1)) stb (ht stb + 1))))), (aYt, .inl (gI g, 36, .inl (ar (up yt (stb * 12 + ht stb) (yt (sta * 12 + ht sta - 1)))))), (aYc, .inl (gI g, 36, .inl (ar (up yc (stb * 12 + ht stb) (yc (sta * 12 + ht sta - 1))))))]) u) t) (va_A [(aY, .inr (10, [.ref aYh, .ref aYt, .ref aYc])), (aYh, .inl (gI g, 3, .inl (ar ht))), (aYt, .inl (gI g, 36, .inl (ar yt))), (aYc, .inl (gI g, 36, .inl (ar yc)))] sz)) 0 0 (va_A [(aY, .inr (10, [.ref aYh, .ref aYt, .ref aYc])), (aYh, .inl (gI g, 3, .inl (ar ht))), (aYt, .inl (gI g, 36, .inl (ar yt))), (aYc, .inl (gI g, 36, .inl (ar yc)))] sz) := by
  refine x_enter (y := yX7_move) (ws := wsX7_move) (g := g) (sz := sz) (av := [.ref aY, .int (iI sta), .int (iI stb)]) (WS := [(aY, .inr (10, [.ref aYh, .ref aYt, .ref aYc])), (aYh, .inl (gI g, 3, .inl (ar ht))), (aYt, .inl (gI g, 36, .inl (ar yt))), (aYc, .inl (gI g, 36, .inl (ar yc)))]) (cc := cX7_move) (maxL := 4) (ret := none) (Qc := (fun A => (va_Qv (fun (u : Unit) => True) (fun u t => xE g A ((fun (u : Unit) => [(aY, .inr (10, [.ref aYh, .ref aYt, .ref aYc])), (aYh, .inl (gI g, 3, .inl (ar (up (up ht sta (ht sta - 1)) stb (ht stb + 1))))), (aYt, .inl (gI g, 36, .inl (ar (up yt (stb * 12 + ht stb) (yt (sta * 12 + ht sta - 1)))))), (aYc, .inl (gI g, 36, .inl (ar (up yc (stb * 12 + ht stb) (yc (sta * 12 + ht sta - 1))))))]) u) t) A))) (by decide) rfl (Nat.le_of_ble_eq_true rfl) ?_
  intro p e s m args below meth c A ls hx hb hr hml hown hts hlocks hname hC hP hD hS hA hl
  have hK := hC.1
  have hown : s.vm.findClass RX7 = some m.cls := hown
  have hin7 : ∀ w ∈ u_ws RX7 TX7 3, w ∈ wsX7_move := by decide +kernel
  have hl : lv_has ls 4 [(0, .ref aY), (1, .int (iI sta)), (2, .int (iI stb))] := hl
  obtain ⟨H, hH⟩ : ∃ z, z = s.heap := ⟨_, rfl⟩
  obtain ⟨locs, hlo⟩ : ∃ z : List Loc, z = [] := ⟨_, rfl⟩
  obtain ⟨Q9, hQ9⟩ : ∃ z, z = MQ below (va_Qv (fun (u : Unit) => True) (fun u t => xE g A ((fun (u : Unit) => [(aY, .inr (10, [.ref aYh, .ref aYt, .ref aYc])), (aYh, .inl (gI g, 3, .inl (ar (up (up ht sta (ht sta - 1)) stb (ht stb + 1))))), (aYt, .inl (gI g, 36, .inl (ar (up yt (stb * 12 + ht stb) (yt (sta * 12 + ht sta - 1)))))), (aYc, .inl (gI g, 36, .inl (ar (up yc (stb * 12 + ht stb) (yc (sta * 12 + ht sta - 1))))))]) u) t) A) args s 0 0 A := ⟨_, rfl⟩
  have hP : va_P (gD g) vwCl [(aY, .inr (10, [.ref aYh, .ref aYt, .ref aYc])), (aYh, .inl (gI g, 3, .inl (ar ht))), (aYt, .inl (gI g, 36, .inl (ar yt))), (aYc, .inl (gI g, 36, .inl (ar yc)))] H := by rw [hH]; exact hP
  have hS : va_S A s.heap H locs := by rw [hH, hlo]; exact hS
  have goal_ : W p l e { frames := 1, cells := 0, slots := 0, locals := 24 } s m args below meth c H locs 0 0 Q9 (F0 m 0 ls []) := by
    clear hH hlo
    have e1 : up ht sta (ht sta - 1) stb = ht stb := up_ne _ _ (by omega)
    have hbs := hb_ht sta
    refine lv_iload_n hx hb dX7_move_0 rfl (lv_at hl 1 rfl) ?_
    refine x_bipush hx hb dX7_move_1 (by decide) ?_
    refine x_imul hx hb dX7_move_3 ?_
    refine lv_aload_n hx hb dX7_move_4 rfl (lv_at hl 0 rfl) ?_
    refine va_get (D := gD g) (ci := 10) (v := .ref aYh) (C := RX7) (T := TX7) (N := 3) hx hb hts hin7 hown hK hP 0 rfl rfl 0 (by decide) (hts (.fieldLink RX7 9 "TunnelRing$Yard" "height" "[I") (List.mem_of_getElem? (i := 1) rfl)) (fun _ h9 => h9) rfl dX7_move_5 ?_
    refine lv_iload_n hx hb dX7_move_8 rfl (lv_at hl 1 rfl) ?_
    refine x_iald hx hb hK hP 1 0 rfl rfl (by omega) (by omega) (Nat.le_of_ble_eq_true rfl) dX7_move_9 (fun v_1 hv_1 => ?_)
    have bv_1 : 0 ≤ v_1 ∧ v_1 ≤ 12 := by rw [hv_1]; exact hb_ht _
    refine x_iadd hx hb dX7_move_10 ?_
    refine x_iconst hx hb dX7_move_11 ?_
    refine x_isub hx hb dX7_move_12 ?_
    obtain ⟨v_2, ev_2⟩ : ∃ z : Int, z = ((sta * 12) + v_1) - 1 := ⟨_, rfl⟩
    refine x_top ev_2.symm ?_
    refine lv_istore_n (lv' := [(3, .int (iI v_2)), (0, .ref aY), (1, .int (iI sta)), (2, .int (iI stb))]) hx hb dX7_move_13 rfl hl (by decide) rfl (fun ls hl => ?_)
    refine lv_aload_n hx hb dX7_move_14 rfl (lv_at hl 1 rfl) ?_
    refine lv_iload_n hx hb dX7_move_15 rfl (lv_at hl 2 rfl) ?_
    refine x_callv (S := Unit) (wc := [(aY, .inr (10, [.ref aYh, .ref aYt, .ref aYc])), (aYh, .inl (gI g, 3, .inl (ar ht)))]) (wr := [(aYt, .inl (gI g, 36, .inl (ar yt))), (aYc, .inl (gI g, 36, .inl (ar yc)))]) hC hP hD hS hA [0, 1] [2, 3] [2, 3, 0, 1] rfl rfl (fun hpre => va_runV (As := [.int (iI sta)]) (rest := []) ⟨hx, hb, hml, hown, hts⟩ (c_X7_takeTop l g H.size aY aYh aYt aYc sta ht (by first | (first | assumption | omega | exact bnd_up (by assumption) (by omega) (by omega)) | fail "q8") (by first | (first | assumption | omega | exact bnd_up (by assumption) (by omega) (by omega)) | fail "q8")) (cwV 1 hts gX7_move_X7_takeTop rfl rfl rfl (by decide +kernel) ⟨Nat.le_of_ble_eq_true rfl, Nat.le_of_ble_eq_true rfl⟩) ⟨xB_blind, va_recv hK hP (ci := 10) (q0 := 0) rfl rfl, hpre _⟩ rfl rfl hl.1 rfl (lv_room (Nat.le_of_ble_eq_true rfl)) dX7_move_16 ⟨Nat.le_of_ble_eq_true rfl, Nat.le_of_ble_eq_true rfl⟩) (fun (u : Unit) => [(aY, .inr (10, [.ref aYh, .ref aYt, .ref aYc])), (aYh, .inl (gI g, 3, .inl (ar (up ht sta (ht sta - 1))))), (aYt, .inl (gI g, 36, .inl (ar yt))), (aYc, .inl (gI g, 36, .inl (ar yc)))]) rfl rfl (by decide) (fun _ => rfl) rfl (fun u H locs hv_3 hP hD hS => ?_)
    have hP : va_P (gD g) vwCl [(aY, .inr (10, [.ref aYh, .ref aYt, .ref aYc])), (aYh, .inl (gI g, 3, .inl (ar (up ht sta (ht sta - 1))))), (aYt, .inl (gI g, 36, .inl (ar yt))), (aYc, .inl (gI g, 36, .inl (ar yc)))] H := hP
    have hD : va_D A [(aY, .inr (10, [.ref aYh, .ref aYt, .ref aYc])), (aYh, .inl (gI g, 3, .inl (ar (up ht sta (ht sta - 1))))), (aYt, .inl (gI g, 36, .inl (ar yt))), (aYc, .inl (gI g, 36, .inl (ar yc)))] := hD
    refine lv_aload_n hx hb dX7_move_19 rfl (lv_at hl 1 rfl) ?_
    refine lv_iload_n hx hb dX7_move_20 rfl (lv_at hl 3 rfl) ?_
    refine lv_aload_n hx hb dX7_move_21 rfl (lv_at hl 1 rfl) ?_
    refine va_get (D := gD g) (ci := 10) (v := .ref aYt) (C := RX7) (T := TX7) (N := 3) hx hb hts hin7 hown hK hP 0 rfl rfl 1 (by decide) (hts (.fieldLink RX7 15 "TunnelRing$Yard" "taper" "[I") (List.mem_of_getElem? (i := 2) rfl)) (fun _ h9 => h9) rfl dX7_move_22 ?_
    refine lv_iload_n hx hb dX7_move_25 rfl (lv_at hl 0 rfl) ?_
    refine x_iald hx hb hK hP 2 0 rfl rfl (by omega) (by omega) (Nat.le_of_ble_eq_true rfl) dX7_move_26 (fun v_4 hv_4 => ?_)
    refine lv_aload_n hx hb dX7_move_27 rfl (lv_at hl 1 rfl) ?_
    refine va_get (D := gD g) (ci := 10) (v := .ref aYc) (C := RX7) (T := TX7) (N := 3) hx hb hts hin7 hown hK hP 0 rfl rfl 2 (by decide) (hts (.fieldLink RX7 18 "TunnelRing$Yard" "castAt" "[I") (List.mem_of_getElem? (i := 3) rfl)) (fun _ h9 => h9) rfl dX7_move_28 ?_
    refine lv_iload_n hx hb dX7_move_31 rfl (lv_at hl 0 rfl) ?_
    refine x_iald hx hb hK hP 3 0 rfl rfl (by omega) (by omega) (Nat.le_of_ble_eq_true rfl) dX7_move_32 (fun v_5 hv_5 => ?_)
    refine x_callv (S := Unit) (wc := [(aY, .inr (10, [.ref aYh, .ref aYt, .ref aYc])), (aYh, .inl (gI g, 3, .inl (ar (up ht sta (ht sta - 1))))), (aYt, .inl (gI g, 36, .inl (ar yt))), (aYc, .inl (gI g, 36, .inl (ar yc)))]) (wr := []) hC hP hD hS hA [0, 1, 2, 3] [] [0, 1, 2, 3] rfl rfl (fun hpre => va_runV (As := [.int (iI stb), .int (iI v_4), .int (iI v_5)]) (rest := []) ⟨hx, hb, hml, hown, hts⟩ (c_X7_put l g H.size aY aYh aYt aYc stb v_4 v_5 (up ht sta (ht sta - 1)) yt yc (by first | (first | assumption | omega | exact bnd_up (by assumption) (by omega) (by omega)) | fail "q8") (by first | (exact bnd_up hb_ht (by omega) (by omega)) | fail "q8") (by first | (rw [e1]; omega) | fail "q8")) (cwV 3 hts gX7_move_X7_put rfl rfl rfl (by decide +kernel) ⟨Nat.le_of_ble_eq_true rfl, Nat.le_of_ble_eq_true rfl⟩) ⟨xB_blind, va_recv hK hP (ci := 10) (q0 := 0) rfl rfl, hpre _⟩ rfl rfl hl.1 rfl (lv_room (Nat.le_of_ble_eq_true rfl)) dX7_move_33 ⟨Nat.le_of_ble_eq_true rfl, Nat.le_of_ble_eq_true rfl⟩) (fun (u : Unit) => [(aY, .inr (10, [.ref aYh, .ref aYt, .ref aYc])), (aYh, .inl (gI g, 3, .inl (ar (up (up ht sta (ht sta - 1)) stb ((up ht sta (ht sta - 1)) stb + 1))))), (aYt, .inl (gI g, 36, .inl (ar (up yt (stb * 12 + (up ht sta (ht sta - 1)) stb) v_4)))), (aYc, .inl (gI g, 36, .inl (ar (up yc (stb * 12 + (up ht sta (ht sta - 1)) stb) v_5))))]) rfl rfl (by decide) (fun _ => rfl) rfl (fun u H locs hv_6 hP hD hS => ?_)
    have hP : va_P (gD g) vwCl [(aY, .inr (10, [.ref aYh, .ref aYt, .ref aYc])), (aYh, .inl (gI g, 3, .inl (ar (up (up ht sta (ht sta - 1)) stb ((up ht sta (ht sta - 1)) stb + 1))))), (aYt, .inl (gI g, 36, .inl (ar (up yt (stb * 12 + (up ht sta (ht sta - 1)) stb) v_4)))), (aYc, .inl (gI g, 36, .inl (ar (up yc (stb * 12 + (up ht sta (ht sta - 1)) stb) v_5))))] H := hP
    have hD : va_D A [(aY, .inr (10, [.ref aYh, .ref aYt, .ref aYc])), (aYh, .inl (gI g, 3, .inl (ar (up (up ht sta (ht sta - 1)) stb ((up ht sta (ht sta - 1)) stb + 1))))), (aYt, .inl (gI g, 36, .inl (ar (up yt (stb * 12 + (up ht sta (ht sta - 1)) stb) v_4)))), (aYc, .inl (gI g, 36, .inl (ar (up yc (stb * 12 + (up ht sta (ht sta - 1)) stb) v_5))))] := hD
    have q_7 : (up (up ht sta (ht sta - 1)) stb (ht stb + 1)) = (up (up ht sta (ht sta - 1)) stb ((up ht sta (ht sta - 1)) stb + 1)) := by
      first
      | (
         subst_vars
         first | rfl | rw [e1])
      | fail "q9"
    have q_8 : (up yt (stb * 12 + ht stb) (yt (sta * 12 + ht sta - 1))) = (up yt (stb * 12 + (up ht sta (ht sta - 1)) stb) v_4) := by
      first
      | (
         subst_vars
         first | rfl | rw [e1])
      | fail "q9"
    have q_9 : (up yc (stb * 12 + ht stb) (yc (sta * 12 + ht sta - 1))) = (up yc (stb * 12 + (up ht sta (ht sta - 1)) stb) v_5) := by
      first
      | (
         subst_vars
         first | rfl | rw [e1])
      | fail "q9"
    have hw_10 := (congr (congr (congrArg (fun (z0 : Int → Int) (z1 : Int → Int) (z2 : Int → Int) => ([(aY, .inr (10, [.ref aYh, .ref aYt, .ref aYc])), (aYh, .inl (gI g, 3, .inl (ar z0))), (aYt, .inl (gI g, 36, .inl (ar z1))), (aYc, .inl (gI g, 36, .inl (ar z2)))] : va_W)) q_7.symm) q_8.symm) q_9.symm)
    rw [hQ9]
    exact x_vret hx hb hr hlocks hP hD hS (S := Unit) (Φ := _) (W1 := _) dX7_move_36 () trivial hw_10 (Nat.le_of_ble_eq_true rfl) (Nat.le_of_ble_eq_true rfl)
  rw [hH, hlo, hQ9] at goal_
  exact goal_

set_option maxHeartbeats 4000000 in
set_option maxRecDepth 100000 in
theorem c_X7_hoursLeft (l : Launch) (g : xg) (sz : Nat) (aY aYh aYt aYc : Nat) (sta pl ho : Int) (yc : Int → Int) (hsta : 0 ≤ sta ∧ sta ≤ 2) (hpl : 0 ≤ pl ∧ pl < 12) (hho : 0 ≤ ho ∧ ho ≤ 5000) (hb_yc : bnd yc 0 5000) : Met l yX7_hoursLeft wsX7_hoursLeft { frames := 1, cells := 0, slots := 0, locals := 22 } (va_Pc [.ref aY, .int (iI sta), .int (iI pl), .int (iI ho)] (xB g [(aY, .inr (10, [.ref aYh, .ref aYt, .ref aYc])), (aYc, .inl (gI g, 36, .inl (ar yc)))] sz)) (va_Qi (fun r u => r = iI ((fun (u : Unit) => mx 0 (yc (sta * 12 + pl) + 24 - ho)) u) ∧ (fun (u : Unit) => 0 ≤ (mx 0 (yc (sta * 12 + pl) + 24 - ho)) ∧ (mx 0 (yc (sta * 12 + pl) + 24 - ho)) ≤ 5024) u) (fun u t => xE g (va_A [(aY, .inr (10, [.ref aYh, .ref aYt, .ref aYc])), (aYc, .inl (gI g, 36, .inl (ar yc)))] sz) ((fun (u : Unit) => [(aY, .inr (10, [.ref aYh, .ref aYt, .ref aYc])), (aYc, .inl (gI g, 36, .inl (ar yc)))]) u) t) (va_A [(aY, .inr (10, [.ref aYh, .ref aYt, .ref aYc])), (aYc, .inl (gI g, 36, .inl (ar yc)))] sz)) 0 0 (va_A [(aY, .inr (10, [.ref aYh, .ref aYt, .ref aYc])), (aYc, .inl (gI g, 36, .inl (ar yc)))] sz) := by
  refine x_enter (y := yX7_hoursLeft) (ws := wsX7_hoursLeft) (g := g) (sz := sz) (av := [.ref aY, .int (iI sta), .int (iI pl), .int (iI ho)]) (WS := [(aY, .inr (10, [.ref aYh, .ref aYt, .ref aYc])), (aYc, .inl (gI g, 36, .inl (ar yc)))]) (cc := cX7_hoursLeft) (maxL := 4) (ret := some .int) (Qc := (fun A => (va_Qi (fun r u => r = iI ((fun (u : Unit) => mx 0 (yc (sta * 12 + pl) + 24 - ho)) u) ∧ (fun (u : Unit) => 0 ≤ (mx 0 (yc (sta * 12 + pl) + 24 - ho)) ∧ (mx 0 (yc (sta * 12 + pl) + 24 - ho)) ≤ 5024) u) (fun u t => xE g A ((fun (u : Unit) => [(aY, .inr (10, [.ref aYh, .ref aYt, .ref aYc])), (aYc, .inl (gI g, 36, .inl (ar yc)))]) u) t) A))) (by decide) rfl (Nat.le_of_ble_eq_true rfl) ?_
  intro p e s m args below meth c A ls hx hb hr hml hown hts hlocks hname hC hP hD hS hA hl
  have hK := hC.1
  have hown : s.vm.findClass RX7 = some m.cls := hown
  have hin7 : ∀ w ∈ u_ws RX7 TX7 3, w ∈ wsX7_hoursLeft := by decide +kernel
  have hl : lv_has ls 4 [(0, .ref aY), (1, .int (iI sta)), (2, .int (iI pl)), (3, .int (iI ho))] := hl
  obtain ⟨H, hH⟩ : ∃ z, z = s.heap := ⟨_, rfl⟩
  obtain ⟨locs, hlo⟩ : ∃ z : List Loc, z = [] := ⟨_, rfl⟩
  obtain ⟨Q9, hQ9⟩ : ∃ z, z = MQ below (va_Qi (fun r u => r = iI ((fun (u : Unit) => mx 0 (yc (sta * 12 + pl) + 24 - ho)) u) ∧ (fun (u : Unit) => 0 ≤ (mx 0 (yc (sta * 12 + pl) + 24 - ho)) ∧ (mx 0 (yc (sta * 12 + pl) + 24 - ho)) ≤ 5024) u) (fun u t => xE g A ((fun (u : Unit) => [(aY, .inr (10, [.ref aYh, .ref aYt, .ref aYc])), (aYc, .inl (gI g, 36, .inl (ar yc)))]) u) t) A) args s 0 0 A := ⟨_, rfl⟩
  have hP : va_P (gD g) vwCl [(aY, .inr (10, [.ref aYh, .ref aYt, .ref aYc])), (aYc, .inl (gI g, 36, .inl (ar yc)))] H := by rw [hH]; exact hP
  have hS : va_S A s.heap H locs := by rw [hH, hlo]; exact hS
  have goal_ : W p l e { frames := 1, cells := 0, slots := 0, locals := 22 } s m args below meth c H locs 0 0 Q9 (F0 m 0 ls []) := by
    clear hH hlo
    refine x_iconst hx hb dX7_hoursLeft_0 ?_
    refine lv_aload_n hx hb dX7_hoursLeft_1 rfl (lv_at hl 0 rfl) ?_
    refine va_get (D := gD g) (ci := 10) (v := .ref aYc) (C := RX7) (T := TX7) (N := 3) hx hb hts hin7 hown hK hP 0 rfl rfl 2 (by decide) (hts (.fieldLink RX7 18 "TunnelRing$Yard" "castAt" "[I") (List.mem_of_getElem? (i := 1) rfl)) (fun _ h9 => h9) rfl dX7_hoursLeft_2 ?_
    refine lv_iload_n hx hb dX7_hoursLeft_5 rfl (lv_at hl 1 rfl) ?_
    refine x_bipush hx hb dX7_hoursLeft_6 (by decide) ?_
    refine x_imul hx hb dX7_hoursLeft_8 ?_
    refine lv_iload_n hx hb dX7_hoursLeft_9 rfl (lv_at hl 2 rfl) ?_
    refine x_iadd hx hb dX7_hoursLeft_10 ?_
    refine x_iald hx hb hK hP 1 0 rfl rfl (by omega) (by omega) (Nat.le_of_ble_eq_true rfl) dX7_hoursLeft_11 (fun v_1 hv_1 => ?_)
    have bv_1 : 0 ≤ v_1 ∧ v_1 ≤ 5000 := by rw [hv_1]; exact hb_yc _
    refine x_bipush hx hb dX7_hoursLeft_12 (by decide) ?_
    refine x_iadd hx hb dX7_hoursLeft_14 ?_
    refine lv_iload_n hx hb dX7_hoursLeft_15 rfl (lv_at hl 3 rfl) ?_
    refine x_isub hx hb dX7_hoursLeft_16 ?_
    refine x_max hx hb (hml.trans hl.1.symm) hown (hts (.methodLink RX7 33 Lib.Math.max.name) (List.mem_of_getElem? (i := 2) rfl)) (hts (.static Lib.Math.max.name) (List.mem_of_getElem? (i := 3) rfl)) (hts (.initialized "java/lang/Math") (List.mem_of_getElem? (i := 4) rfl)) (hts (.code Lib.Math.max.name Lib.Math.max.code 2 (some .int)) (List.mem_of_getElem? (i := 5) rfl)) (Nat.le_of_ble_eq_true rfl) (Nat.le_of_ble_eq_true rfl) (Nat.le_of_ble_eq_true rfl) (Nat.le_of_ble_eq_true rfl) (by omega) (by omega) dX7_hoursLeft_17 (fun v_2 hv_2 => ?_)
    have bv_2 := mx_r 0 ((v_1 + 24) - ho) hv_2
    rw [hQ9]
    exact x_iret hx hb hr hlocks hP hD hS (S := Unit) rfl dX7_hoursLeft_20 () (by
        first
        | (
           first | rfl | omega | (subst_vars; first | rfl | omega))
        | fail "q9") (by
        first
        | (
           have h1 := mx_r 0 (yc (sta * 12 + pl) + 24 - ho) rfl
           have h2 := hb_yc (sta * 12 + pl)
           omega)
        | fail "q9") rfl (Nat.le_of_ble_eq_true rfl) (Nat.le_of_ble_eq_true rfl)
  rw [hH, hlo, hQ9] at goal_
  exact goal_

set_option maxHeartbeats 4000000 in
set_option maxRecDepth 100000 in
theorem c_X7_countRings (l : Launch) (g : xg) (sz : Nat) (aY aYh aYt aYc : Nat) (ht : Int → Int) (hb_ht : bnd ht 0 12) : Met l yX7_countRings wsX7_countRings { frames := 0, cells := 0, slots := 0, locals := 0 } (va_Pc [.ref aY] (xB g [(aY, .inr (10, [.ref aYh, .ref aYt, .ref aYc])), (aYh, .inl (gI g, 3, .inl (ar ht)))] sz)) (va_Qi (fun r u => r = iI ((fun (u : Unit) => sumI ht 3) u) ∧ (fun (u : Unit) => 0 ≤ (sumI ht 3) ∧ (sumI ht 3) ≤ 36) u) (fun u t => xE g (va_A [(aY, .inr (10, [.ref aYh, .ref aYt, .ref aYc])), (aYh, .inl (gI g, 3, .inl (ar ht)))] sz) ((fun (u : Unit) => [(aY, .inr (10, [.ref aYh, .ref aYt, .ref aYc])), (aYh, .inl (gI g, 3, .inl (ar ht)))]) u) t) (va_A [(aY, .inr (10, [.ref aYh, .ref aYt, .ref aYc])), (aYh, .inl (gI g, 3, .inl (ar ht)))] sz)) 0 0 (va_A [(aY, .inr (10, [.ref aYh, .ref aYt, .ref aYc])), (aYh, .inl (gI g, 3, .inl (ar ht)))] sz) := by
  refine x_enter (y := yX7_countRings) (ws := wsX7_countRings) (g := g) (sz := sz) (av := [.ref aY]) (WS := [(aY, .inr (10, [.ref aYh, .ref aYt, .ref aYc])), (aYh, .inl (gI g, 3, .inl (ar ht)))]) (cc := cX7_countRings) (maxL := 3) (ret := some .int) (Qc := (fun A => (va_Qi (fun r u => r = iI ((fun (u : Unit) => sumI ht 3) u) ∧ (fun (u : Unit) => 0 ≤ (sumI ht 3) ∧ (sumI ht 3) ≤ 36) u) (fun u t => xE g A ((fun (u : Unit) => [(aY, .inr (10, [.ref aYh, .ref aYt, .ref aYc])), (aYh, .inl (gI g, 3, .inl (ar ht)))]) u) t) A))) (by decide) rfl (Nat.le_of_ble_eq_true rfl) ?_
  intro p e s m args below meth c A ls hx hb hr hml hown hts hlocks hname hC hP hD hS hA hl
  have hK := hC.1
  have hown : s.vm.findClass RX7 = some m.cls := hown
  have hin7 : ∀ w ∈ u_ws RX7 TX7 3, w ∈ wsX7_countRings := by decide +kernel
  have hl : lv_has ls 3 [(0, .ref aY)] := hl
  obtain ⟨H, hH⟩ : ∃ z, z = s.heap := ⟨_, rfl⟩
  obtain ⟨locs, hlo⟩ : ∃ z : List Loc, z = [] := ⟨_, rfl⟩
  obtain ⟨Q9, hQ9⟩ : ∃ z, z = MQ below (va_Qi (fun r u => r = iI ((fun (u : Unit) => sumI ht 3) u) ∧ (fun (u : Unit) => 0 ≤ (sumI ht 3) ∧ (sumI ht 3) ≤ 36) u) (fun u t => xE g A ((fun (u : Unit) => [(aY, .inr (10, [.ref aYh, .ref aYt, .ref aYc])), (aYh, .inl (gI g, 3, .inl (ar ht)))]) u) t) A) args s 0 0 A := ⟨_, rfl⟩
  have hP : va_P (gD g) vwCl [(aY, .inr (10, [.ref aYh, .ref aYt, .ref aYc])), (aYh, .inl (gI g, 3, .inl (ar ht)))] H := by rw [hH]; exact hP
  have hS : va_S A s.heap H locs := by rw [hH, hlo]; exact hS
  have goal_ : W p l e { frames := 0, cells := 0, slots := 0, locals := 0 } s m args below meth c H locs 0 0 Q9 (F0 m 0 ls []) := by
    clear hH hlo
    refine x_iconst hx hb dX7_countRings_0 ?_
    refine lv_istore_n (lv' := [(1, .int (iI 0)), (0, .ref aY)]) hx hb dX7_countRings_1 rfl hl (by decide) rfl (fun ls hl => ?_)
    refine x_iconst hx hb dX7_countRings_2 ?_
    refine lv_istore_n (lv' := [(2, .int (iI 0)), (1, .int (iI 0)), (0, .ref aY)]) hx hb dX7_countRings_3 rfl hl (by decide) rfl (fun ls hl => ?_)
    have lp4 : ∀ (n : Nat) (c1 : Int) (i1 : Int), (0 ≤ i1 ∧ i1 ≤ 3) → (c1 = sumI ht i1) → 3 - i1 + 1 ≤ (n : Int) → ∀ (H : Heap) (locs : List Loc), va_P (gD g) vwCl [(aY, .inr (10, [.ref aYh, .ref aYt, .ref aYc])), (aYh, .inl (gI g, 3, .inl (ar ht)))] H → va_D A [(aY, .inr (10, [.ref aYh, .ref aYt, .ref aYc])), (aYh, .inl (gI g, 3, .inl (ar ht)))] → va_S A s.heap H locs → ∀ (ls : Array Slot), lv_has ls 3 [(2, .int (iI i1)), (1, .int (iI c1)), (0, .ref aY)] → W p l e { frames := 0, cells := 0, slots := 0, locals := 0 } s m args below meth c H locs (0) (0) Q9 (F0 m 4 ls []) := by
      intro n
      induction n with
      | zero => intro c1 i1 hi1 hc1 hm; exfalso; omega
      | succ n ih4 =>
        intro c1 i1 hi1 hc1 hm H locs hP hD hS ls hl
        refine lv_iload_n hx hb dX7_countRings_4 rfl (lv_at hl 0 rfl) ?_
        refine x_iconst hx hb dX7_countRings_5 ?_
        refine x_cmp_ge (tgt := 24) hx hb (by omega) (by omega) dX7_countRings_6 (by decide) (fun c_1 => ?_) (fun c_1 => ?_)
        · skip
          refine lv_iload_n hx hb dX7_countRings_24 rfl (lv_at hl 1 rfl) ?_
          rw [hQ9]
          exact x_iret hx hb hr hlocks hP hD hS (S := Unit) rfl dX7_countRings_25 () (by
              first
              | (
                 have e : i1 = 3 := by omega
                 subst_vars
                 rfl)
              | fail "q9") (by
              first
              | (
                 exact sumI_b (n := 3) (B := 12) hb_ht (by omega))
              | fail "q9") rfl (Nat.le_of_ble_eq_true rfl) (Nat.le_of_ble_eq_true rfl)
        · skip
          refine lv_iload_n hx hb dX7_countRings_9 rfl (lv_at hl 1 rfl) ?_
          refine lv_aload_n hx hb dX7_countRings_10 rfl (lv_at hl 2 rfl) ?_
          refine va_get (D := gD g) (ci := 10) (v := .ref aYh) (C := RX7) (T := TX7) (N := 3) hx hb hts hin7 hown hK hP 0 rfl rfl 0 (by decide) (hts (.fieldLink RX7 9 "TunnelRing$Yard" "height" "[I") (List.mem_of_getElem? (i := 1) rfl)) (fun _ h9 => h9) rfl dX7_countRings_11 ?_
          refine lv_iload_n hx hb dX7_countRings_14 rfl (lv_at hl 0 rfl) ?_
          refine x_iald hx hb hK hP 1 0 rfl rfl (by omega) (by omega) (Nat.le_of_ble_eq_true rfl) dX7_countRings_15 (fun v_2 hv_2 => ?_)
          have bv_2 : 0 ≤ v_2 ∧ v_2 ≤ 12 := by rw [hv_2]; exact hb_ht _
          refine x_iadd hx hb dX7_countRings_16 ?_
          obtain ⟨v_3, ev_3⟩ : ∃ z : Int, z = c1 + v_2 := ⟨_, rfl⟩
          refine x_top ev_3.symm ?_
          refine lv_istore_n (lv' := [(1, .int (iI v_3)), (2, .int (iI i1)), (0, .ref aY)]) hx hb dX7_countRings_17 rfl hl (by decide) rfl (fun ls hl => ?_)
          refine x_iinc (k := 1) (lv' := [(2, .int (iI (i1 + 1))), (1, .int (iI v_3)), (0, .ref aY)]) hx hb dX7_countRings_18 hl rfl (by decide) rfl (fun ls hl => ?_)
          refine lv_goto (tgt := 4) hx hb dX7_countRings_21 (by decide) ?_
          exact ih4 v_3 (i1 + 1) (show 0 ≤ (i1 + 1) ∧ (i1 + 1) ≤ 3 by
              first
              | (
                 first | assumption | omega | rfl)
              | fail "q9") (show v_3 = sumI ht (i1 + 1) by
              first
              | (
                 rw [sumI_step _ (by omega)]
                 subst_vars
                 rfl)
              | fail "q9") (by
              first
              | (
                 omega)
              | fail "q9") _ _ hP hD hS ls (lv_sub hl [0, 1, 2] rfl)
    exact lp4 (3 - 0 + 1 : Int).toNat 0 0 (show 0 ≤ 0 ∧ 0 ≤ 3 by
        first
        | (
           first | assumption | omega | rfl)
        | fail "q9") (show 0 = sumI ht 0 by
        first
        | (
           rfl)
        | fail "q9") (by omega) _ _ hP hD hS ls (lv_sub hl [0, 1, 2] rfl)
  rw [hH, hlo, hQ9] at goal_
  exact goal_

set_option maxHeartbeats 4000000 in
set_option maxRecDepth 100000 in
theorem c_X7_countCured (l : Launch) (g : xg) (sz : Nat) (aY aYh aYt aYc : Nat) (ho : Int) (ht yc : Int → Int) (hb_ht : bnd ht 0 12) (hho : 0 ≤ ho ∧ ho ≤ 5000) (hb_yc : bnd yc 0 5000) : Met l yX7_countCured wsX7_countCured { frames := 2, cells := 0, slots := 0, locals := 45 } (va_Pc [.ref aY, .int (iI ho)] (xB g [(aY, .inr (10, [.ref aYh, .ref aYt, .ref aYc])), (aYh, .inl (gI g, 3, .inl (ar ht))), (aYc, .inl (gI g, 36, .inl (ar yc)))] sz)) (va_Qi (fun r u => r = iI ((fun (u : Unit) => sumI (fun sta => sumI (fun pl => bI (mx 0 (yc (sta * 12 + pl) + 24 - ho) = 0)) (ht sta)) 3) u) ∧ (fun (u : Unit) => True) u) (fun u t => xE g (va_A [(aY, .inr (10, [.ref aYh, .ref aYt, .ref aYc])), (aYh, .inl (gI g, 3, .inl (ar ht))), (aYc, .inl (gI g, 36, .inl (ar yc)))] sz) ((fun (u : Unit) => [(aY, .inr (10, [.ref aYh, .ref aYt, .ref aYc])), (aYh, .inl (gI g, 3, .inl (ar ht))), (aYc, .inl (gI g, 36, .inl (ar yc)))]) u) t) (va_A [(aY, .inr (10, [.ref aYh, .ref aYt, .ref aYc])), (aYh, .inl (gI g, 3, .inl (ar ht))), (aYc, .inl (gI g, 36, .inl (ar yc)))] sz)) 0 0 (va_A [(aY, .inr (10, [.ref aYh, .ref aYt, .ref aYc])), (aYh, .inl (gI g, 3, .inl (ar ht))), (aYc, .inl (gI g, 36, .inl (ar yc)))] sz) := by
  refine x_enter (y := yX7_countCured) (ws := wsX7_countCured) (g := g) (sz := sz) (av := [.ref aY, .int (iI ho)]) (WS := [(aY, .inr (10, [.ref aYh, .ref aYt, .ref aYc])), (aYh, .inl (gI g, 3, .inl (ar ht))), (aYc, .inl (gI g, 36, .inl (ar yc)))]) (cc := cX7_countCured) (maxL := 5) (ret := some .int) (Qc := (fun A => (va_Qi (fun r u => r = iI ((fun (u : Unit) => sumI (fun sta => sumI (fun pl => bI (mx 0 (yc (sta * 12 + pl) + 24 - ho) = 0)) (ht sta)) 3) u) ∧ (fun (u : Unit) => True) u) (fun u t => xE g A ((fun (u : Unit) => [(aY, .inr (10, [.ref aYh, .ref aYt, .ref aYc])), (aYh, .inl (gI g, 3, .inl (ar ht))), (aYc, .inl (gI g, 36, .inl (ar yc)))]) u) t) A))) (by decide) rfl (Nat.le_of_ble_eq_true rfl) ?_
  intro p e s m args below meth c A ls hx hb hr hml hown hts hlocks hname hC hP hD hS hA hl
  have hK := hC.1
  have hown : s.vm.findClass RX7 = some m.cls := hown
  have hin7 : ∀ w ∈ u_ws RX7 TX7 3, w ∈ wsX7_countCured := by decide +kernel
  have hl : lv_has ls 5 [(0, .ref aY), (1, .int (iI ho))] := hl
  obtain ⟨H, hH⟩ : ∃ z, z = s.heap := ⟨_, rfl⟩
  obtain ⟨locs, hlo⟩ : ∃ z : List Loc, z = [] := ⟨_, rfl⟩
  obtain ⟨Q9, hQ9⟩ : ∃ z, z = MQ below (va_Qi (fun r u => r = iI ((fun (u : Unit) => sumI (fun sta => sumI (fun pl => bI (mx 0 (yc (sta * 12 + pl) + 24 - ho) = 0)) (ht sta)) 3) u) ∧ (fun (u : Unit) => True) u) (fun u t => xE g A ((fun (u : Unit) => [(aY, .inr (10, [.ref aYh, .ref aYt, .ref aYc])), (aYh, .inl (gI g, 3, .inl (ar ht))), (aYc, .inl (gI g, 36, .inl (ar yc)))]) u) t) A) args s 0 0 A := ⟨_, rfl⟩
  have hP : va_P (gD g) vwCl [(aY, .inr (10, [.ref aYh, .ref aYt, .ref aYc])), (aYh, .inl (gI g, 3, .inl (ar ht))), (aYc, .inl (gI g, 36, .inl (ar yc)))] H := by rw [hH]; exact hP
  have hS : va_S A s.heap H locs := by rw [hH, hlo]; exact hS
  have goal_ : W p l e { frames := 2, cells := 0, slots := 0, locals := 45 } s m args below meth c H locs 0 0 Q9 (F0 m 0 ls []) := by
    clear hH hlo
    refine x_iconst hx hb dX7_countCured_0 ?_
    refine lv_istore_n (lv' := [(2, .int (iI 0)), (0, .ref aY), (1, .int (iI ho))]) hx hb dX7_countCured_1 rfl hl (by decide) rfl (fun ls hl => ?_)
    refine x_iconst hx hb dX7_countCured_2 ?_
    refine lv_istore_n (lv' := [(3, .int (iI 0)), (2, .int (iI 0)), (0, .ref aY), (1, .int (iI ho))]) hx hb dX7_countCured_3 rfl hl (by decide) rfl (fun ls hl => ?_)
    have lp4 : ∀ (n : Nat) (c1 : Int) (i1 : Int), (0 ≤ i1 ∧ i1 ≤ 3) → (c1 = sumI (fun sta => sumI (fun pl => bI (mx 0 (yc (sta * 12 + pl) + 24 - ho) = 0)) (ht sta)) i1) → 3 - i1 + 1 ≤ (n : Int) → ∀ (H : Heap) (locs : List Loc), va_P (gD g) vwCl [(aY, .inr (10, [.ref aYh, .ref aYt, .ref aYc])), (aYh, .inl (gI g, 3, .inl (ar ht))), (aYc, .inl (gI g, 36, .inl (ar yc)))] H → va_D A [(aY, .inr (10, [.ref aYh, .ref aYt, .ref aYc])), (aYh, .inl (gI g, 3, .inl (ar ht))), (aYc, .inl (gI g, 36, .inl (ar yc)))] → va_S A s.heap H locs → ∀ (ls : Array Slot), lv_has ls 5 [(3, .int (iI i1)), (2, .int (iI c1)), (0, .ref aY), (1, .int (iI ho))] → W p l e { frames := 2, cells := 0, slots := 0, locals := 45 } s m args below meth c H locs (0) (0) Q9 (F0 m 4 ls []) := by
      intro n
      induction n with
      | zero => intro c1 i1 hi1 hc1 hm; exfalso; omega
      | succ n ih4 =>
        intro c1 i1 hi1 hc1 hm H locs hP hD hS ls hl
        refine lv_iload_n hx hb dX7_countCured_4 rfl (lv_at hl 0 rfl) ?_
        refine x_iconst hx hb dX7_countCured_5 ?_
        refine x_cmp_ge (tgt := 49) hx hb (by omega) (by omega) dX7_countCured_6 (by decide) (fun c_1 => ?_) (fun c_1 => ?_)
        · skip
          refine lv_iload_n hx hb dX7_countCured_49 rfl (lv_at hl 1 rfl) ?_
          rw [hQ9]
          exact x_iret hx hb hr hlocks hP hD hS (S := Unit) rfl dX7_countCured_50 () (by
              first
              | (
                 have e : i1 = 3 := by omega
                 subst_vars
                 rfl)
              | fail "q9") trivial rfl (Nat.le_of_ble_eq_true rfl) (Nat.le_of_ble_eq_true rfl)
        · skip
          refine x_iconst hx hb dX7_countCured_9 ?_
          refine lv_istore (lv' := [(4, .int (iI 0)), (3, .int (iI i1)), (2, .int (iI c1)), (0, .ref aY), (1, .int (iI ho))]) hx hb dX7_countCured_10 hl (by decide) rfl (fun ls hl => ?_)
          have lp12 : ∀ (n : Nat) (c2 : Int) (i2 : Int), (0 ≤ i2 ∧ i2 ≤ ht i1) → (c2 = c1 + sumI (fun pl => bI (mx 0 (yc (i1 * 12 + pl) + 24 - ho) = 0)) i2) → ht i1 - i2 + 1 ≤ (n : Int) → ∀ (H : Heap) (locs : List Loc), va_P (gD g) vwCl [(aY, .inr (10, [.ref aYh, .ref aYt, .ref aYc])), (aYh, .inl (gI g, 3, .inl (ar ht))), (aYc, .inl (gI g, 36, .inl (ar yc)))] H → va_D A [(aY, .inr (10, [.ref aYh, .ref aYt, .ref aYc])), (aYh, .inl (gI g, 3, .inl (ar ht))), (aYc, .inl (gI g, 36, .inl (ar yc)))] → va_S A s.heap H locs → ∀ (ls : Array Slot), lv_has ls 5 [(4, .int (iI i2)), (3, .int (iI i1)), (2, .int (iI c2)), (0, .ref aY), (1, .int (iI ho))] → W p l e { frames := 2, cells := 0, slots := 0, locals := 45 } s m args below meth c H locs (0) (0) Q9 (F0 m 12 ls []) := by
            intro n
            induction n with
            | zero => intro c2 i2 hi2 hc2 hm; exfalso; omega
            | succ n ih12 =>
              intro c2 i2 hi2 hc2 hm H locs hP hD hS ls hl
              have hbi := hb_ht i1
              refine lv_iload hx hb dX7_countCured_12 (lv_at hl 0 rfl) ?_
              refine lv_aload_n hx hb dX7_countCured_14 rfl (lv_at hl 3 rfl) ?_
              refine va_get (D := gD g) (ci := 10) (v := .ref aYh) (C := RX7) (T := TX7) (N := 3) hx hb hts hin7 hown hK hP 0 rfl rfl 0 (by decide) (hts (.fieldLink RX7 9 "TunnelRing$Yard" "height" "[I") (List.mem_of_getElem? (i := 1) rfl)) (fun _ h9 => h9) rfl dX7_countCured_15 ?_
              refine lv_iload_n hx hb dX7_countCured_18 rfl (lv_at hl 1 rfl) ?_
              refine x_iald hx hb hK hP 1 0 rfl rfl (by omega) (by omega) (Nat.le_of_ble_eq_true rfl) dX7_countCured_19 (fun v_2 hv_2 => ?_)
              have bv_2 : 0 ≤ v_2 ∧ v_2 ≤ 12 := by rw [hv_2]; exact hb_ht _
              refine x_cmp_ge (tgt := 43) hx hb (by omega) (by omega) dX7_countCured_20 (by decide) (fun c_3 => ?_) (fun c_3 => ?_)
              · skip
                refine x_iinc (k := 1) (lv' := [(3, .int (iI (i1 + 1))), (4, .int (iI i2)), (2, .int (iI c2)), (0, .ref aY), (1, .int (iI ho))]) hx hb dX7_countCured_43 hl rfl (by decide) rfl (fun ls hl => ?_)
                refine lv_goto (tgt := 4) hx hb dX7_countCured_46 (by decide) ?_
                exact ih4 c2 (i1 + 1) (show 0 ≤ (i1 + 1) ∧ (i1 + 1) ≤ 3 by
                    first
                    | (
                       first | assumption | omega | rfl)
                    | fail "q9") (show c2 = sumI (fun sta => sumI (fun pl => bI (mx 0 (yc (sta * 12 + pl) + 24 - ho) = 0)) (ht sta)) (i1 + 1) by
                    first
                    | (
                       rw [sumI_step _ (by omega), ← show i2 = ht i1 by omega]
                       rw [hc2, hc1])
                    | fail "q9") (by
                    first
                    | (
                       omega)
                    | fail "q9") _ _ hP hD hS ls (lv_sub hl [0, 2, 3, 4] rfl)
              · skip
                refine lv_aload_n hx hb dX7_countCured_23 rfl (lv_at hl 3 rfl) ?_
                refine lv_iload_n hx hb dX7_countCured_24 rfl (lv_at hl 1 rfl) ?_
                refine lv_iload hx hb dX7_countCured_25 (lv_at hl 0 rfl) ?_
                refine lv_iload_n hx hb dX7_countCured_27 rfl (lv_at hl 4 rfl) ?_
                refine x_calli (S := Unit) (wc := [(aY, .inr (10, [.ref aYh, .ref aYt, .ref aYc])), (aYc, .inl (gI g, 36, .inl (ar yc)))]) (wr := [(aYh, .inl (gI g, 3, .inl (ar ht)))]) hC hP hD hS hA [0, 2] [1] [1, 0, 2] rfl rfl (fun hpre => va_runV (As := [.int (iI i1), .int (iI i2), .int (iI ho)]) (rest := []) ⟨hx, hb, hml, hown, hts⟩ (c_X7_hoursLeft l g H.size aY aYh aYt aYc i1 i2 ho yc (by first | (first | assumption | omega | exact bnd_up (by assumption) (by omega) (by omega)) | fail "q8") (by first | (first | assumption | omega | exact bnd_up (by assumption) (by omega) (by omega)) | fail "q8") (by first | (first | assumption | omega | exact bnd_up (by assumption) (by omega) (by omega)) | fail "q8") (by first | (first | assumption | omega | exact bnd_up (by assumption) (by omega) (by omega)) | fail "q8")) (cwV 3 hts gX7_countCured_X7_hoursLeft rfl rfl rfl (by decide +kernel) ⟨Nat.le_of_ble_eq_true rfl, Nat.le_of_ble_eq_true rfl⟩) ⟨xB_blind, va_recv hK hP (ci := 10) (q0 := 0) rfl rfl, hpre _⟩ rfl rfl hl.1 rfl (lv_room (Nat.le_of_ble_eq_true rfl)) dX7_countCured_28 ⟨Nat.le_of_ble_eq_true rfl, Nat.le_of_ble_eq_true rfl⟩) (fun (u : Unit) => [(aY, .inr (10, [.ref aYh, .ref aYt, .ref aYc])), (aYh, .inl (gI g, 3, .inl (ar ht))), (aYc, .inl (gI g, 36, .inl (ar yc)))]) rfl rfl (by decide) (fun _ => rfl) rfl (fun u v_4 H locs hv_4 pv_4 hP hD hS => ?_)
                have hP : va_P (gD g) vwCl [(aY, .inr (10, [.ref aYh, .ref aYt, .ref aYc])), (aYh, .inl (gI g, 3, .inl (ar ht))), (aYc, .inl (gI g, 36, .inl (ar yc)))] H := hP
                have hD : va_D A [(aY, .inr (10, [.ref aYh, .ref aYt, .ref aYc])), (aYh, .inl (gI g, 3, .inl (ar ht))), (aYc, .inl (gI g, 36, .inl (ar yc)))] := hD
                have hv_4 : v_4 = mx 0 (yc (i1 * 12 + i2) + 24 - ho) := hv_4
                have pv_4 : 0 ≤ v_4 ∧ v_4 ≤ 5024 := by first | exact pv_4 | (rw [hv_4]; exact pv_4)
                refine x_if_ne (tgt := 37) hx hb (by omega) dX7_countCured_31 (by decide) (fun c_5 => ?_) (fun c_5 => ?_)
                · skip
                  refine x_iinc (k := 0) (lv' := [(4, .int (iI (i2 + 1))), (3, .int (iI i1)), (2, .int (iI c2)), (0, .ref aY), (1, .int (iI ho))]) hx hb dX7_countCured_37 hl rfl (by decide) rfl (fun ls hl => ?_)
                  refine lv_goto (tgt := 12) hx hb dX7_countCured_40 (by decide) ?_
                  exact ih12 c2 (i2 + 1) (show 0 ≤ (i2 + 1) ∧ (i2 + 1) ≤ ht i1 by
                      first
                      | (
                         first | assumption | omega | rfl)
                      | fail "q9") (show c2 = c1 + sumI (fun pl => bI (mx 0 (yc (i1 * 12 + pl) + 24 - ho) = 0)) (i2 + 1) by
                      first
                      | (
                         rw [sumI_step _ (by omega)]
                         subst_vars
                         first | (rw [bI_t (by omega)]; omega) | (rw [bI_f (by omega)]; omega))
                      | fail "q9") (by
                      first
                      | (
                         omega)
                      | fail "q9") _ _ hP hD hS ls (lv_sub hl [0, 1, 2, 3, 4] rfl)
                · skip
                  refine x_iinc (k := 2) (lv' := [(2, .int (iI (c2 + 1))), (4, .int (iI i2)), (3, .int (iI i1)), (0, .ref aY), (1, .int (iI ho))]) hx hb dX7_countCured_34 hl rfl (by decide) rfl (fun ls hl => ?_)
                  refine x_iinc (k := 1) (lv' := [(4, .int (iI (i2 + 1))), (2, .int (iI (c2 + 1))), (3, .int (iI i1)), (0, .ref aY), (1, .int (iI ho))]) hx hb dX7_countCured_37 hl rfl (by decide) rfl (fun ls hl => ?_)
                  refine lv_goto (tgt := 12) hx hb dX7_countCured_40 (by decide) ?_
                  exact ih12 (c2 + 1) (i2 + 1) (show 0 ≤ (i2 + 1) ∧ (i2 + 1) ≤ ht i1 by
                      first
                      | (
                         first | assumption | omega | rfl)
                      | fail "q9") (show (c2 + 1) = c1 + sumI (fun pl => bI (mx 0 (yc (i1 * 12 + pl) + 24 - ho) = 0)) (i2 + 1) by
                      first
                      | (
                         rw [sumI_step _ (by omega)]
                         subst_vars
                         first | (rw [bI_t (by omega)]; omega) | (rw [bI_f (by omega)]; omega))
                      | fail "q9") (by
                      first
                      | (
                         omega)
                      | fail "q9") _ _ hP hD hS ls (lv_sub hl [0, 2, 1, 3, 4] rfl)
          exact lp12 (ht i1 - 0 + 1 : Int).toNat c1 0 (show 0 ≤ 0 ∧ 0 ≤ ht i1 by
              first
              | (
                 have := hb_ht i1; omega)
              | fail "q9") (show c1 = c1 + sumI (fun pl => bI (mx 0 (yc (i1 * 12 + pl) + 24 - ho) = 0)) 0 by
              first
              | (
                 show c1 = c1 + sumI _ 0; rw [sumI_0]; omega)
              | fail "q9") (by omega) _ _ hP hD hS ls (lv_sub hl [0, 1, 2, 3, 4] rfl)
    exact lp4 (3 - 0 + 1 : Int).toNat 0 0 (show 0 ≤ 0 ∧ 0 ≤ 3 by
        first
        | (
           first | assumption | omega | rfl)
        | fail "q9") (show 0 = sumI (fun sta => sumI (fun pl => bI (mx 0 (yc (sta * 12 + pl) + 24 - ho) = 0)) (ht sta)) 0 by
        first
        | (
           rfl)
        | fail "q9") (by omega) _ _ hP hD hS ls (lv_sub hl [0, 1, 2, 3] rfl)
  rw [hH, hlo, hQ9] at goal_
  exact goal_
