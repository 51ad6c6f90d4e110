set_option maxHeartbeats 4000000 in
set_option maxRecDepth 100000 in
theorem c_L_cell (l : Launch) (g : xg) (sz : Nat) (ix : Int) (hgN : gN g ≤ 260) (hix : 0 ≤ ix ∧ ix ≤ 2000000) : Met l yL_cell wsL_cell { frames := 0, cells := 0, slots := 0, locals := 0 } (va_Pc [.ref (gS g), .int (iI ix)] (xB g [] sz)) (va_Qi (fun r u => r = iI ((fun (u : Int) => u) u) ∧ (fun (u : Int) => iR u) u) (fun u t => xE g (va_A [] sz) ((fun (u : Int) => []) u) t) (va_A [] sz)) 0 0 (va_A [] sz) := by
  refine x_enter (y := yL_cell) (ws := wsL_cell) (g := g) (sz := sz) (av := [.ref (gS g), .int (iI ix)]) (WS := []) (cc := cL_cell) (maxL := 3) (ret := some .int) (Qc := (fun A => (va_Qi (fun r u => r = iI ((fun (u : Int) => u) u) ∧ (fun (u : Int) => iR u) u) (fun u t => xE g A ((fun (u : Int) => []) u) t) A))) (by decide) rfl (Nat.le_of_ble_eq_true rfl) ?_
  intro p e s m args below meth c A ls hx hb hr hml hown hts hlocks hname hC hP hD hS hA hl
  have hK := hC.1
  have hown : s.vm.findClass RL = some m.cls := hown
  have hl : lv_has ls 3 [(0, .ref (gS g)), (1, .int (iI ix))] := hl
  obtain ⟨H, hH⟩ : ∃ z, z = s.heap := ⟨_, rfl⟩
  obtain ⟨locs, hlo⟩ : ∃ z : List Loc, z = [] := ⟨_, rfl⟩
  obtain ⟨Q9, hQ9⟩ : ∃ z, z = MQ below (va_Qi (fun r u => r = iI ((fun (u : Int) => u) u) ∧ (fun (u : Int) => iR u) u) (fun u t => xE g A ((fun (u : Int) => []) u) t) A) args s 0 0 A := ⟨_, rfl⟩
  have hP : va_P (gD g) vwCl [] H := by rw [hH]; exact hP
  have hS : va_S A s.heap H locs := by rw [hH, hlo]; exact hS
  have goal_ : W p l e { frames := 0, cells := 0, slots := 0, locals := 0 } s m args below meth c H locs 0 0 Q9 (F0 m 0 ls []) := by
    clear hH hlo
    refine x_ldc (v := 69069) hx hb hown (hts (.constant RL 7 (69069)) (List.mem_of_getElem? (i := 1) rfl)) (by decide) dL_cell_0 ?_
    refine lv_iload_n hx hb dL_cell_2 rfl (lv_at hl 1 rfl) ?_
    refine lv_aload_n hx hb dL_cell_3 rfl (lv_at hl 0 rfl) ?_
    refine x_slen hx hb hC hS hgN dL_cell_4 ?_
    refine x_cmp_ge (tgt := 14) hx hb (by omega) (by omega) dL_cell_5 (by decide) (fun c_1 => ?_) (fun c_1 => ?_)
    · skip
      refine x_iconst hx hb dL_cell_14 ?_
      refine x_sipush hx hb dL_cell_15 (by decide) ?_
      refine lv_iload_n hx hb dL_cell_18 rfl (lv_at hl 1 rfl) ?_
      refine x_imul hx hb dL_cell_19 ?_
      refine x_iadd hx hb dL_cell_20 ?_
      refine x_imul hx hb dL_cell_21 ?_
      refine x_sipush hx hb dL_cell_22 (by decide) ?_
      refine x_iadd hx hb dL_cell_25 ?_
      obtain ⟨v_2, ev_2⟩ : ∃ z : Int, z = (69069 * (0 + (1009 * ix))) + 12345 := ⟨_, rfl⟩
      refine x_top ev_2.symm ?_
      refine lv_istore_n (lv' := [(2, .int (iI v_2)), (0, .ref (gS g)), (1, .int (iI ix))]) hx hb dL_cell_26 rfl hl (by decide) rfl (fun ls hl => ?_)
      refine lv_iload_n hx hb dL_cell_27 rfl (lv_at hl 0 rfl) ?_
      refine lv_iload_n hx hb dL_cell_28 rfl (lv_at hl 0 rfl) ?_
      refine x_bipush hx hb dL_cell_29 (by decide) ?_
      refine x_iushr hx hb dL_cell_31 (fun v_3 hv_3 => ?_)
      refine x_ixor hx hb dL_cell_32 (fun v_4 hv_4 => ?_)
      refine x_ldc (v := 1103515245) hx hb hown (hts (.constant RL 8 (1103515245)) (List.mem_of_getElem? (i := 2) rfl)) (by decide) dL_cell_33 ?_
      refine x_imul hx hb dL_cell_35 ?_
      obtain ⟨v_5, ev_5⟩ : ∃ z : Int, z = v_4 * 1103515245 := ⟨_, rfl⟩
      refine x_top ev_5.symm ?_
      refine lv_istore_n (lv' := [(2, .int (iI v_5)), (0, .ref (gS g)), (1, .int (iI ix))]) hx hb dL_cell_36 rfl hl (by decide) rfl (fun ls hl => ?_)
      refine lv_iload_n hx hb dL_cell_37 rfl (lv_at hl 0 rfl) ?_
      refine lv_iload_n hx hb dL_cell_38 rfl (lv_at hl 0 rfl) ?_
      refine x_bipush hx hb dL_cell_39 (by decide) ?_
      refine x_iushr hx hb dL_cell_41 (fun v_6 hv_6 => ?_)
      refine x_ixor hx hb dL_cell_42 (fun v_7 hv_7 => ?_)
      rw [hQ9]
      exact x_iret hx hb hr hlocks hP hD hS (S := Int) rfl dL_cell_43 v_7 rfl (by
          first
          | (
             assumption)
          | fail "q9") rfl (Nat.le_of_ble_eq_true rfl) (Nat.le_of_ble_eq_true rfl)
    · skip
      refine lv_aload_n hx hb dL_cell_8 rfl (lv_at hl 0 rfl) ?_
      refine lv_iload_n hx hb dL_cell_9 rfl (lv_at hl 1 rfl) ?_
      refine x_sld hx hb hC hS hgN (by omega) (by omega) dL_cell_10 (fun v_8 hv_8 => ?_)
      refine lv_goto (tgt := 15) hx hb dL_cell_11 (by decide) ?_
      refine x_sipush hx hb dL_cell_15 (by decide) ?_
      refine lv_iload_n hx hb dL_cell_18 rfl (lv_at hl 1 rfl) ?_
      refine x_imul hx hb dL_cell_19 ?_
      refine x_iadd hx hb dL_cell_20 ?_
      refine x_imul hx hb dL_cell_21 ?_
      refine x_sipush hx hb dL_cell_22 (by decide) ?_
      refine x_iadd hx hb dL_cell_25 ?_
      obtain ⟨v_9, ev_9⟩ : ∃ z : Int, z = (69069 * (v_8 + (1009 * ix))) + 12345 := ⟨_, rfl⟩
      refine x_top ev_9.symm ?_
      refine lv_istore_n (lv' := [(2, .int (iI v_9)), (0, .ref (gS g)), (1, .int (iI ix))]) hx hb dL_cell_26 rfl hl (by decide) rfl (fun ls hl => ?_)
      refine lv_iload_n hx hb dL_cell_27 rfl (lv_at hl 0 rfl) ?_
      refine lv_iload_n hx hb dL_cell_28 rfl (lv_at hl 0 rfl) ?_
      refine x_bipush hx hb dL_cell_29 (by decide) ?_
      refine x_iushr hx hb dL_cell_31 (fun v_10 hv_10 => ?_)
      refine x_ixor hx hb dL_cell_32 (fun v_11 hv_11 => ?_)
      refine x_ldc (v := 1103515245) hx hb hown (hts (.constant RL 8 (1103515245)) (List.mem_of_getElem? (i := 2) rfl)) (by decide) dL_cell_33 ?_
      refine x_imul hx hb dL_cell_35 ?_
      obtain ⟨v_12, ev_12⟩ : ∃ z : Int, z = v_11 * 1103515245 := ⟨_, rfl⟩
      refine x_top ev_12.symm ?_
      refine lv_istore_n (lv' := [(2, .int (iI v_12)), (0, .ref (gS g)), (1, .int (iI ix))]) hx hb dL_cell_36 rfl hl (by decide) rfl (fun ls hl => ?_)
      refine lv_iload_n hx hb dL_cell_37 rfl (lv_at hl 0 rfl) ?_
      refine lv_iload_n hx hb dL_cell_38 rfl (lv_at hl 0 rfl) ?_
      refine x_bipush hx hb dL_cell_39 (by decide) ?_
      refine x_iushr hx hb dL_cell_41 (fun v_13 hv_13 => ?_)
      refine x_ixor hx hb dL_cell_42 (fun v_14 hv_14 => ?_)
      rw [hQ9]
      exact x_iret hx hb hr hlocks hP hD hS (S := Int) rfl dL_cell_43 v_14 rfl (by
          first
          | (
             assumption)
          | fail "q9") rfl (Nat.le_of_ble_eq_true rfl) (Nat.le_of_ble_eq_true rfl)
  rw [hH, hlo, hQ9] at goal_
  exact goal_

set_option maxHeartbeats 4000000 in
set_option maxRecDepth 100000 in
theorem c_L_in (l : Launch) (g : xg) (sz : Nat) (ix n_ : Int) (hgN : gN g ≤ 260) (hix : 0 ≤ ix ∧ ix ≤ 2000000) (hn : 1 ≤ n_ ∧ n_ ≤ 1000) : Met l yL_in wsL_in { frames := 1, cells := 0, slots := 0, locals := 22 } (va_Pc [.ref (gS g), .int (iI ix), .int (iI n_)] (xB g [] sz)) (va_Qi (fun r u => r = iI ((fun (u : Int) => u) u) ∧ (fun (u : Int) => 0 ≤ u ∧ u < n_) u) (fun u t => xE g (va_A [] sz) ((fun (u : Int) => []) u) t) (va_A [] sz)) 0 0 (va_A [] sz) := by
  refine x_enter (y := yL_in) (ws := wsL_in) (g := g) (sz := sz) (av := [.ref (gS g), .int (iI ix), .int (iI n_)]) (WS := []) (cc := cL_in) (maxL := 3) (ret := some .int) (Qc := (fun A => (va_Qi (fun r u => r = iI ((fun (u : Int) => u) u) ∧ (fun (u : Int) => 0 ≤ u ∧ u < n_) u) (fun u t => xE g A ((fun (u : Int) => []) u) t) A))) (by decide) rfl (Nat.le_of_ble_eq_true rfl) ?_
  intro p e s m args below meth c A ls hx hb hr hml hown hts hlocks hname hC hP hD hS hA hl
  have hK := hC.1
  have hown : s.vm.findClass RL = some m.cls := hown
  have hl : lv_has ls 3 [(0, .ref (gS g)), (1, .int (iI ix)), (2, .int (iI n_))] := hl
  obtain ⟨H, hH⟩ : ∃ z, z = s.heap := ⟨_, rfl⟩
  obtain ⟨locs, hlo⟩ : ∃ z : List Loc, z = [] := ⟨_, rfl⟩
  obtain ⟨Q9, hQ9⟩ : ∃ z, z = MQ below (va_Qi (fun r u => r = iI ((fun (u : Int) => u) u) ∧ (fun (u : Int) => 0 ≤ u ∧ u < n_) u) (fun u t => xE g A ((fun (u : Int) => []) u) t) A) args s 0 0 A := ⟨_, rfl⟩
  have hP : va_P (gD g) vwCl [] H := by rw [hH]; exact hP
  have hS : va_S A s.heap H locs := by rw [hH, hlo]; exact hS
  have goal_ : W p l e { frames := 1, cells := 0, slots := 0, locals := 22 } s m args below meth c H locs 0 0 Q9 (F0 m 0 ls []) := by
    clear hH hlo
    refine lv_aload_n hx hb dL_in_0 rfl (lv_at hl 0 rfl) ?_
    refine lv_iload_n hx hb dL_in_1 rfl (lv_at hl 1 rfl) ?_
    refine x_calli (S := Int) (wc := []) (wr := []) hC hP hD hS hA [] [] [] rfl rfl (fun hpre => va_runS (As := [.ref (gS g), .int (iI ix)]) (rest := []) ⟨hx, hb, hml, hown, hts⟩ (c_L_cell l g H.size ix (by first | (first | assumption | omega | exact bnd_up (by assumption) (by omega) (by omega)) | fail "q8") (by first | (first | assumption | omega | exact bnd_up (by assumption) (by omega) (by omega)) | fail "q8")) (va_cwS 2 hts gL_in_L_cell rfl rfl rfl (by decide +kernel) ⟨Nat.le_of_ble_eq_true rfl, Nat.le_of_ble_eq_true rfl⟩) ⟨xB_blind, hpre _⟩ rfl rfl hl.1 rfl (lv_room (Nat.le_of_ble_eq_true rfl)) dL_in_2 ⟨Nat.le_of_ble_eq_true rfl, Nat.le_of_ble_eq_true rfl⟩) (fun (u : Int) => []) rfl rfl (by decide) (fun _ => rfl) rfl (fun u v_2 H locs hv_2 pv_2 hP hD hS => ?_)
    obtain ⟨rv_1, rfl⟩ : ∃ z, z = u := ⟨_, rfl⟩
    have hP : va_P (gD g) vwCl [] H := hP
    have hD : va_D A [] := hD
    have hv_2 : v_2 = rv_1 := hv_2
    have pv_2 : iR rv_1 := by first | exact pv_2 | (rw [hv_2]; exact pv_2)
    refine x_ldc (v := 2147483647) hx hb hown (hts (.constant RL 117 (2147483647)) (List.mem_of_getElem? (i := 1) rfl)) (by decide) dL_in_5 ?_
    refine x_iandM hx hb dL_in_7 (fun v_3 hv_3 => ?_)
    refine lv_iload_n hx hb dL_in_8 rfl (lv_at hl 2 rfl) ?_
    refine x_irem hx hb (by omega) (by omega) dL_in_9 ?_
    rw [hQ9]
    exact x_iret hx hb hr hlocks hP hD hS (S := Int) rfl dL_in_10 (v_3 % n_) (by
        first
        | (
           first | rfl | omega | (subst_vars; first | rfl | omega))
        | fail "q9") (by
        first
        | (
           exact ⟨Int.emod_nonneg _ (by omega), Int.emod_lt_of_pos _ (by omega)⟩)
        | fail "q9") rfl (Nat.le_of_ble_eq_true rfl) (Nat.le_of_ble_eq_true rfl)
  rw [hH, hlo, hQ9] at goal_
  exact goal_

set_option maxHeartbeats 4000000 in
set_option maxRecDepth 100000 in
theorem c_L_begun (l : Launch) (g : xg) (sz : Nat) : Met l yL_begun wsL_begun { frames := 0, cells := 1, slots := 1960, locals := 0 } (va_Pc [] (xB g [] sz)) (va_Qr (fun (u : Nat) => True) (fun u a t => a = (fun (u : Nat) => u) u ∧ xE g (va_A [] sz) ((fun (u : Nat) => [(u, .inl (gI g, 1960, .inl (ar (up (up (fun _ => 0) 5 50) 7 100))))]) u) t) (va_A [] sz)) 1 1960 (va_A [] sz) := by
  refine x_enter (y := yL_begun) (ws := wsL_begun) (g := g) (sz := sz) (av := []) (WS := []) (cc := cL_begun) (maxL := 1) (ret := some (.array .int)) (Qc := (fun A => (va_Qr (fun (u : Nat) => True) (fun u a t => a = (fun (u : Nat) => u) u ∧ xE g A ((fun (u : Nat) => [(u, .inl (gI g, 1960, .inl (ar (up (up (fun _ => 0) 5 50) 7 100))))]) u) t) A))) (by decide) rfl (Nat.le_of_ble_eq_true rfl) ?_
  intro p e s m args below meth c A ls hx hb hr hml hown hts hlocks hname hC hP hD hS hA hl
  have hK := hC.1
  have hown : s.vm.findClass RL = some m.cls := hown
  have hl : lv_has ls 1 [] := hl
  obtain ⟨H, hH⟩ : ∃ z, z = s.heap := ⟨_, rfl⟩
  obtain ⟨locs, hlo⟩ : ∃ z : List Loc, z = [] := ⟨_, rfl⟩
  obtain ⟨Q9, hQ9⟩ : ∃ z, z = MQ below (va_Qr (fun (u : Nat) => True) (fun u a t => a = (fun (u : Nat) => u) u ∧ xE g A ((fun (u : Nat) => [(u, .inl (gI g, 1960, .inl (ar (up (up (fun _ => 0) 5 50) 7 100))))]) u) t) A) args s 1 1960 A := ⟨_, rfl⟩
  have hP : va_P (gD g) vwCl [] H := by rw [hH]; exact hP
  have hS : va_S A s.heap H locs := by rw [hH, hlo]; exact hS
  have goal_ : W p l e { frames := 0, cells := 1, slots := 1960, locals := 0 } s m args below meth c H locs 0 0 Q9 (F0 m 0 ls []) := by
    clear hH hlo
    refine x_sipush hx hb dL_begun_0 (by decide) ?_
    refine x_newI hx hb (hts (.arrayClass .int) (List.mem_of_getElem? (i := 1) rfl)) hC hP hD hS hA 1960 (by decide) (by decide) (by decide) (Nat.le_of_ble_eq_true rfl) (Nat.le_of_ble_eq_true rfl) dL_begun_3 (fun q_1 H hP hD hS => ?_)
    have hP : va_P (gD g) vwCl [(q_1, .inl (gI g, 1960, .inl (ar (fun _ => 0))))] H := hP
    have hD : va_D A [(q_1, .inl (gI g, 1960, .inl (ar (fun _ => 0))))] := hD
    refine lv_astore_n (lv' := [(0, .ref q_1)]) hx hb dL_begun_5 rfl hl (by decide) rfl (fun ls hl => ?_)
    refine lv_aload_n hx hb dL_begun_6 rfl (lv_at hl 0 rfl) ?_
    refine x_iconst hx hb dL_begun_7 ?_
    refine x_bipush hx hb dL_begun_8 (by decide) ?_
    refine x_iast hx hb hK hP hD hS 0 0 rfl rfl (by omega) (by omega) (Nat.le_of_ble_eq_true rfl) dL_begun_10 (fun H locs hP hD hS => ?_)
    have hP : va_P (gD g) vwCl [(q_1, .inl (gI g, 1960, .inl (ar (up (fun _ => 0) 5 50))))] H := hP
    have hD : va_D A [(q_1, .inl (gI g, 1960, .inl (ar (up (fun _ => 0) 5 50))))] := hD
    refine lv_aload_n hx hb dL_begun_11 rfl (lv_at hl 0 rfl) ?_
    refine x_bipush hx hb dL_begun_12 (by decide) ?_
    refine x_bipush hx hb dL_begun_14 (by decide) ?_
    refine x_iast hx hb hK hP hD hS 0 0 rfl rfl (by omega) (by omega) (Nat.le_of_ble_eq_true rfl) dL_begun_16 (fun H locs hP hD hS => ?_)
    have hP : va_P (gD g) vwCl [(q_1, .inl (gI g, 1960, .inl (ar (up (up (fun _ => 0) 5 50) 7 100))))] H := hP
    have hD : va_D A [(q_1, .inl (gI g, 1960, .inl (ar (up (up (fun _ => 0) 5 50) 7 100))))] := hD
    refine lv_aload_n hx hb dL_begun_17 rfl (lv_at hl 0 rfl) ?_
    rw [hQ9]
    exact x_aret hx hb hr (Or.inr ⟨_, rfl⟩) hlocks hP hD hS (S := Nat) (adr := (fun (u : Nat) => u)) dL_begun_18 q_1 rfl trivial rfl (Nat.le_of_ble_eq_true rfl) (Nat.le_of_ble_eq_true rfl)
  rw [hH, hlo, hQ9] at goal_
  exact goal_

set_option maxHeartbeats 4000000 in
set_option maxRecDepth 100000 in
theorem c_L_topOf (l : Launch) (g : xg) (sz : Nat) (aN : Nat) (sta : Int) (F : Int → Int) (hsta : 0 ≤ sta ∧ sta ≤ 2) : Met l yL_topOf wsL_topOf { frames := 0, cells := 0, slots := 0, locals := 0 } (va_Pc [.ref aN, .int (iI sta)] (xB g [(aN, .inl (gI g, 1960, .inl (ar F)))] sz)) (va_Qi (fun r u => r = iI ((fun (u : Unit) => 1818 + 24 * sta + 2 * F (10 + sta)) u) ∧ (fun (u : Unit) => True) u) (fun u t => xE g (va_A [(aN, .inl (gI g, 1960, .inl (ar F)))] sz) ((fun (u : Unit) => [(aN, .inl (gI g, 1960, .inl (ar F)))]) u) t) (va_A [(aN, .inl (gI g, 1960, .inl (ar F)))] sz)) 0 0 (va_A [(aN, .inl (gI g, 1960, .inl (ar F)))] sz) := by
  refine x_enter (y := yL_topOf) (ws := wsL_topOf) (g := g) (sz := sz) (av := [.ref aN, .int (iI sta)]) (WS := [(aN, .inl (gI g, 1960, .inl (ar F)))]) (cc := cL_topOf) (maxL := 2) (ret := some .int) (Qc := (fun A => (va_Qi (fun r u => r = iI ((fun (u : Unit) => 1818 + 24 * sta + 2 * F (10 + sta)) u) ∧ (fun (u : Unit) => True) u) (fun u t => xE g A ((fun (u : Unit) => [(aN, .inl (gI g, 1960, .inl (ar F)))]) u) t) A))) (by decide) rfl (Nat.le_of_ble_eq_true rfl) ?_
  intro p e s m args below meth c A ls hx hb hr hml hown hts hlocks hname hC hP hD hS hA hl
  have hK := hC.1
  have hown : s.vm.findClass RL = some m.cls := hown
  have hl : lv_has ls 2 [(0, .ref aN), (1, .int (iI sta))] := hl
  obtain ⟨H, hH⟩ : ∃ z, z = s.heap := ⟨_, rfl⟩
  obtain ⟨locs, hlo⟩ : ∃ z : List Loc, z = [] := ⟨_, rfl⟩
  obtain ⟨Q9, hQ9⟩ : ∃ z, z = MQ below (va_Qi (fun r u => r = iI ((fun (u : Unit) => 1818 + 24 * sta + 2 * F (10 + sta)) u) ∧ (fun (u : Unit) => True) u) (fun u t => xE g A ((fun (u : Unit) => [(aN, .inl (gI g, 1960, .inl (ar F)))]) u) t) A) args s 0 0 A := ⟨_, rfl⟩
  have hP : va_P (gD g) vwCl [(aN, .inl (gI g, 1960, .inl (ar F)))] H := by rw [hH]; exact hP
  have hS : va_S A s.heap H locs := by rw [hH, hlo]; exact hS
  have goal_ : W p l e { frames := 0, cells := 0, slots := 0, locals := 0 } s m args below meth c H locs 0 0 Q9 (F0 m 0 ls []) := by
    clear hH hlo
    refine x_sipush hx hb dL_topOf_0 (by decide) ?_
    refine x_bipush hx hb dL_topOf_3 (by decide) ?_
    refine lv_iload_n hx hb dL_topOf_5 rfl (lv_at hl 1 rfl) ?_
    refine x_imul hx hb dL_topOf_6 ?_
    refine x_iadd hx hb dL_topOf_7 ?_
    refine x_iconst hx hb dL_topOf_8 ?_
    refine lv_aload_n hx hb dL_topOf_9 rfl (lv_at hl 0 rfl) ?_
    refine x_bipush hx hb dL_topOf_10 (by decide) ?_
    refine lv_iload_n hx hb dL_topOf_12 rfl (lv_at hl 1 rfl) ?_
    refine x_iadd hx hb dL_topOf_13 ?_
    refine x_iald hx hb hK hP 0 0 rfl rfl (by omega) (by omega) (Nat.le_of_ble_eq_true rfl) dL_topOf_14 (fun v_1 hv_1 => ?_)
    refine x_imul hx hb dL_topOf_15 ?_
    refine x_iadd hx hb dL_topOf_16 ?_
    rw [hQ9]
    exact x_iret hx hb hr hlocks hP hD hS (S := Unit) rfl dL_topOf_17 () (by
        first
        | (
           first | rfl | omega | (subst_vars; first | rfl | omega))
        | fail "q9") trivial rfl (Nat.le_of_ble_eq_true rfl) (Nat.le_of_ble_eq_true rfl)
  rw [hH, hlo, hQ9] at goal_
  exact goal_

set_option maxHeartbeats 4000000 in
set_option maxRecDepth 100000 in
theorem c_L_side (l : Launch) (g : xg) (sz : Nat) (po : Int) (hpo : 0 ≤ po ∧ po ≤ 7) : Met l yL_side wsL_side { frames := 0, cells := 1, slots := 8, locals := 0 } (va_Pc [.int (iI po)] (xB g [] sz)) (va_Qi (fun r u => r = iI ((fun (u : Unit) => toSide po) u) ∧ (fun (u : Unit) => True) u) (fun u t => xE g (va_A [] sz) ((fun (u : Unit) => []) u) t) (va_A [] sz)) 1 8 (va_A [] sz) := by
  refine x_enter (y := yL_side) (ws := wsL_side) (g := g) (sz := sz) (av := [.int (iI po)]) (WS := []) (cc := cL_side) (maxL := 2) (ret := some .int) (Qc := (fun A => (va_Qi (fun r u => r = iI ((fun (u : Unit) => toSide po) u) ∧ (fun (u : Unit) => True) u) (fun u t => xE g A ((fun (u : Unit) => []) u) t) A))) (by decide) rfl (Nat.le_of_ble_eq_true rfl) ?_
  intro p e s m args below meth c A ls hx hb hr hml hown hts hlocks hname hC hP hD hS hA hl
  have hK := hC.1
  have hown : s.vm.findClass RL = some m.cls := hown
  have hl : lv_has ls 2 [(0, .int (iI po))] := hl
  obtain ⟨H, hH⟩ : ∃ z, z = s.heap := ⟨_, rfl⟩
  obtain ⟨locs, hlo⟩ : ∃ z : List Loc, z = [] := ⟨_, rfl⟩
  obtain ⟨Q9, hQ9⟩ : ∃ z, z = MQ below (va_Qi (fun r u => r = iI ((fun (u : Unit) => toSide po) u) ∧ (fun (u : Unit) => True) u) (fun u t => xE g A ((fun (u : Unit) => []) u) t) A) args s 1 8 A := ⟨_, rfl⟩
  have hP : va_P (gD g) vwCl [] H := by rw [hH]; exact hP
  have hS : va_S A s.heap H locs := by rw [hH, hlo]; exact hS
  have goal_ : W p l e { frames := 0, cells := 1, slots := 8, locals := 0 } s m args below meth c H locs 0 0 Q9 (F0 m 0 ls []) := by
    clear hH hlo
    refine x_bipush hx hb dL_side_0 (by decide) ?_
    refine x_newI hx hb (hts (.arrayClass .int) (List.mem_of_getElem? (i := 1) rfl)) hC hP hD hS hA 8 (by decide) (by decide) (by decide) (Nat.le_of_ble_eq_true rfl) (Nat.le_of_ble_eq_true rfl) dL_side_2 (fun q_1 H hP hD hS => ?_)
    have hP : va_P (gD g) vwCl [(q_1, .inl (gI g, 8, .inl (ar (fun _ => 0))))] H := hP
    have hD : va_D A [(q_1, .inl (gI g, 8, .inl (ar (fun _ => 0))))] := hD
    refine lv_dup hx hb dL_side_4 rfl ?_
    refine x_iconst hx hb dL_side_5 ?_
    refine x_iconst hx hb dL_side_6 ?_
    refine x_iast hx hb hK hP hD hS 0 0 rfl rfl (by omega) (by omega) (Nat.le_of_ble_eq_true rfl) dL_side_7 (fun H locs hP hD hS => ?_)
    have hP : va_P (gD g) vwCl [(q_1, .inl (gI g, 8, .inl (ar (up (fun _ => 0) 0 0))))] H := hP
    have hD : va_D A [(q_1, .inl (gI g, 8, .inl (ar (up (fun _ => 0) 0 0))))] := hD
    refine lv_dup hx hb dL_side_8 rfl ?_
    refine x_iconst hx hb dL_side_9 ?_
    refine x_iconst hx hb dL_side_10 ?_
    refine x_iast hx hb hK hP hD hS 0 0 rfl rfl (by omega) (by omega) (Nat.le_of_ble_eq_true rfl) dL_side_11 (fun H locs hP hD hS => ?_)
    have hP : va_P (gD g) vwCl [(q_1, .inl (gI g, 8, .inl (ar (up (up (fun _ => 0) 0 0) 1 1))))] H := hP
    have hD : va_D A [(q_1, .inl (gI g, 8, .inl (ar (up (up (fun _ => 0) 0 0) 1 1))))] := hD
    refine lv_dup hx hb dL_side_12 rfl ?_
    refine x_iconst hx hb dL_side_13 ?_
    refine x_iconst hx hb dL_side_14 ?_
    refine x_iast hx hb hK hP hD hS 0 0 rfl rfl (by omega) (by omega) (Nat.le_of_ble_eq_true rfl) dL_side_15 (fun H locs hP hD hS => ?_)
    have hP : va_P (gD g) vwCl [(q_1, .inl (gI g, 8, .inl (ar (up (up (up (fun _ => 0) 0 0) 1 1) 2 1))))] H := hP
    have hD : va_D A [(q_1, .inl (gI g, 8, .inl (ar (up (up (up (fun _ => 0) 0 0) 1 1) 2 1))))] := hD
    refine lv_dup hx hb dL_side_16 rfl ?_
    refine x_iconst hx hb dL_side_17 ?_
    refine x_iconst hx hb dL_side_18 ?_
    refine x_iast hx hb hK hP hD hS 0 0 rfl rfl (by omega) (by omega) (Nat.le_of_ble_eq_true rfl) dL_side_19 (fun H locs hP hD hS => ?_)
    have hP : va_P (gD g) vwCl [(q_1, .inl (gI g, 8, .inl (ar (up (up (up (up (fun _ => 0) 0 0) 1 1) 2 1) 3 1))))] H := hP
    have hD : va_D A [(q_1, .inl (gI g, 8, .inl (ar (up (up (up (up (fun _ => 0) 0 0) 1 1) 2 1) 3 1))))] := hD
    refine lv_dup hx hb dL_side_20 rfl ?_
    refine x_iconst hx hb dL_side_21 ?_
    refine x_iconst hx hb dL_side_22 ?_
    refine x_iast hx hb hK hP hD hS 0 0 rfl rfl (by omega) (by omega) (Nat.le_of_ble_eq_true rfl) dL_side_23 (fun H locs hP hD hS => ?_)
    have hP : va_P (gD g) vwCl [(q_1, .inl (gI g, 8, .inl (ar (up (up (up (up (up (fun _ => 0) 0 0) 1 1) 2 1) 3 1) 4 0))))] H := hP
    have hD : va_D A [(q_1, .inl (gI g, 8, .inl (ar (up (up (up (up (up (fun _ => 0) 0 0) 1 1) 2 1) 3 1) 4 0))))] := hD
    refine lv_dup hx hb dL_side_24 rfl ?_
    refine x_iconst hx hb dL_side_25 ?_
    refine x_iconst hx hb dL_side_26 ?_
    refine x_iast hx hb hK hP hD hS 0 0 rfl rfl (by omega) (by omega) (Nat.le_of_ble_eq_true rfl) dL_side_27 (fun H locs hP hD hS => ?_)
    have hP : va_P (gD g) vwCl [(q_1, .inl (gI g, 8, .inl (ar (up (up (up (up (up (up (fun _ => 0) 0 0) 1 1) 2 1) 3 1) 4 0) 5 (-1)))))] H := hP
    have hD : va_D A [(q_1, .inl (gI g, 8, .inl (ar (up (up (up (up (up (up (fun _ => 0) 0 0) 1 1) 2 1) 3 1) 4 0) 5 (-1)))))] := hD
    refine lv_dup hx hb dL_side_28 rfl ?_
    refine x_bipush hx hb dL_side_29 (by decide) ?_
    refine x_iconst hx hb dL_side_31 ?_
    refine x_iast hx hb hK hP hD hS 0 0 rfl rfl (by omega) (by omega) (Nat.le_of_ble_eq_true rfl) dL_side_32 (fun H locs hP hD hS => ?_)
    have hP : va_P (gD g) vwCl [(q_1, .inl (gI g, 8, .inl (ar (up (up (up (up (up (up (up (fun _ => 0) 0 0) 1 1) 2 1) 3 1) 4 0) 5 (-1)) 6 (-1)))))] H := hP
    have hD : va_D A [(q_1, .inl (gI g, 8, .inl (ar (up (up (up (up (up (up (up (fun _ => 0) 0 0) 1 1) 2 1) 3 1) 4 0) 5 (-1)) 6 (-1)))))] := hD
    refine lv_dup hx hb dL_side_33 rfl ?_
    refine x_bipush hx hb dL_side_34 (by decide) ?_
    refine x_iconst hx hb dL_side_36 ?_
    refine x_iast hx hb hK hP hD hS 0 0 rfl rfl (by omega) (by omega) (Nat.le_of_ble_eq_true rfl) dL_side_37 (fun H locs hP hD hS => ?_)
    have hP : va_P (gD g) vwCl [(q_1, .inl (gI g, 8, .inl (ar (up (up (up (up (up (up (up (up (fun _ => 0) 0 0) 1 1) 2 1) 3 1) 4 0) 5 (-1)) 6 (-1)) 7 (-1)))))] H := hP
    have hD : va_D A [(q_1, .inl (gI g, 8, .inl (ar (up (up (up (up (up (up (up (up (fun _ => 0) 0 0) 1 1) 2 1) 3 1) 4 0) 5 (-1)) 6 (-1)) 7 (-1)))))] := hD
    refine lv_astore_n (lv' := [(1, .ref q_1), (0, .int (iI po))]) hx hb dL_side_38 rfl hl (by decide) rfl (fun ls hl => ?_)
    refine lv_aload_n hx hb dL_side_39 rfl (lv_at hl 0 rfl) ?_
    refine lv_iload_n hx hb dL_side_40 rfl (lv_at hl 1 rfl) ?_
    refine x_iald hx hb hK hP 0 0 rfl rfl (by omega) (by omega) (Nat.le_of_ble_eq_true rfl) dL_side_41 (fun v_2 hv_2 => ?_)
    have hP : va_P (gD g) vwCl [] H := hP.sub [] rfl
    have hD : va_D A [] := hD.sub [] (by decide) rfl
    rw [hQ9]
    exact x_iret hx hb hr hlocks hP hD hS (S := Unit) rfl dL_side_42 () (by
        first
        | (
           subst_vars
           exact side_row hpo)
        | fail "q9") trivial rfl (Nat.le_of_ble_eq_true rfl) (Nat.le_of_ble_eq_true rfl)
  rw [hH, hlo, hQ9] at goal_
  exact goal_

set_option maxHeartbeats 4000000 in
set_option maxRecDepth 100000 in
theorem c_L_upward (l : Launch) (g : xg) (sz : Nat) (po : Int) (hpo : 0 ≤ po ∧ po ≤ 7) : Met l yL_upward wsL_upward { frames := 1, cells := 1, slots := 8, locals := 21 } (va_Pc [.int (iI po)] (xB g [] sz)) (va_Qi (fun r u => r = iI ((fun (u : Unit) => upward po) u) ∧ (fun (u : Unit) => True) u) (fun u t => xE g (va_A [] sz) ((fun (u : Unit) => []) u) t) (va_A [] sz)) 1 8 (va_A [] sz) := by
  refine x_enter (y := yL_upward) (ws := wsL_upward) (g := g) (sz := sz) (av := [.int (iI po)]) (WS := []) (cc := cL_upward) (maxL := 1) (ret := some .int) (Qc := (fun A => (va_Qi (fun r u => r = iI ((fun (u : Unit) => upward po) u) ∧ (fun (u : Unit) => True) u) (fun u t => xE g A ((fun (u : Unit) => []) u) t) A))) (by decide) rfl (Nat.le_of_ble_eq_true rfl) ?_
  intro p e s m args below meth c A ls hx hb hr hml hown hts hlocks hname hC hP hD hS hA hl
  have hK := hC.1
  have hown : s.vm.findClass RL = some m.cls := hown
  have hl : lv_has ls 1 [(0, .int (iI po))] := hl
  obtain ⟨H, hH⟩ : ∃ z, z = s.heap := ⟨_, rfl⟩
  obtain ⟨locs, hlo⟩ : ∃ z : List Loc, z = [] := ⟨_, rfl⟩
  obtain ⟨Q9, hQ9⟩ : ∃ z, z = MQ below (va_Qi (fun r u => r = iI ((fun (u : Unit) => upward po) u) ∧ (fun (u : Unit) => True) u) (fun u t => xE g A ((fun (u : Unit) => []) u) t) A) args s 1 8 A := ⟨_, rfl⟩
  have hP : va_P (gD g) vwCl [] H := by rw [hH]; exact hP
  have hS : va_S A s.heap H locs := by rw [hH, hlo]; exact hS
  have goal_ : W p l e { frames := 1, cells := 1, slots := 8, locals := 21 } s m args below meth c H locs 0 0 Q9 (F0 m 0 ls []) := by
    clear hH hlo
    refine lv_iload_n hx hb dL_upward_0 rfl (lv_at hl 0 rfl) ?_
    refine x_iconst hx hb dL_upward_1 ?_
    refine x_iadd hx hb dL_upward_2 ?_
    refine x_bipush hx hb dL_upward_3 (by decide) ?_
    refine x_irem hx hb (by omega) (by omega) dL_upward_5 ?_
    refine x_calli (S := Unit) (wc := []) (wr := []) hC hP hD hS hA [] [] [] rfl rfl (fun hpre => va_runS (As := [.int (iI ((po + 2) % 8))]) (rest := []) ⟨hx, hb, hml, hown, hts⟩ (c_L_side l g H.size ((po + 2) % 8) (by first | (first | assumption | omega | exact bnd_up (by assumption) (by omega) (by omega)) | fail "q8")) (va_cwS 1 hts gL_upward_L_side rfl rfl rfl (by decide +kernel) ⟨Nat.le_of_ble_eq_true rfl, Nat.le_of_ble_eq_true rfl⟩) ⟨xB_blind, hpre _⟩ rfl rfl hl.1 rfl (lv_room (Nat.le_of_ble_eq_true rfl)) dL_upward_6 ⟨Nat.le_of_ble_eq_true rfl, Nat.le_of_ble_eq_true rfl⟩) (fun (u : Unit) => []) rfl rfl (by decide) (fun _ => rfl) rfl (fun u v_1 H locs hv_1 pv_1 hP hD hS => ?_)
    have hP : va_P (gD g) vwCl [] H := hP
    have hD : va_D A [] := hD
    have hv_1 : v_1 = toSide ((po + 2) % 8) := hv_1
    rw [hQ9]
    exact x_iret hx hb hr hlocks hP hD hS (S := Unit) rfl dL_upward_9 () (by
        first
        | (
           subst_vars
           exact side_up hpo)
        | fail "q9") trivial rfl (Nat.le_of_ble_eq_true rfl) (Nat.le_of_ble_eq_true rfl)
  rw [hH, hlo, hQ9] at goal_
  exact goal_

set_option maxHeartbeats 4000000 in
set_option maxRecDepth 100000 in
theorem c_L_fits (l : Launch) (g : xg) (sz : Nat) (aN : Nat) (rg po : Int) (F : Int → Int) (be : Int) (hrg : 0 ≤ rg ∧ rg ≤ 200) (hpo : 0 ≤ po ∧ po ≤ 7) (hbe : (rg = 0 → be = -1) ∧ (rg ≠ 0 → be = F (1019 + rg) ∧ 0 ≤ be ∧ be ≤ 7)) : Met l yL_fits wsL_fits { frames := 0, cells := 0, slots := 0, locals := 0 } (va_Pc [.ref aN, .int (iI rg), .int (iI po)] (xB g [(aN, .inl (gI g, 1960, .inl (ar F)))] sz)) (va_Qi (fun r u => r = iI ((fun (u : Unit) => bI (fitP be po)) u) ∧ (fun (u : Unit) => True) u) (fun u t => xE g (va_A [(aN, .inl (gI g, 1960, .inl (ar F)))] sz) ((fun (u : Unit) => [(aN, .inl (gI g, 1960, .inl (ar F)))]) u) t) (va_A [(aN, .inl (gI g, 1960, .inl (ar F)))] sz)) 0 0 (va_A [(aN, .inl (gI g, 1960, .inl (ar F)))] sz) := by
  refine x_enter (y := yL_fits) (ws := wsL_fits) (g := g) (sz := sz) (av := [.ref aN, .int (iI rg), .int (iI po)]) (WS := [(aN, .inl (gI g, 1960, .inl (ar F)))]) (cc := cL_fits) (maxL := 4) (ret := some .boolean) (Qc := (fun A => (va_Qi (fun r u => r = iI ((fun (u : Unit) => bI (fitP be po)) u) ∧ (fun (u : Unit) => True) u) (fun u t => xE g A ((fun (u : Unit) => [(aN, .inl (gI g, 1960, .inl (ar F)))]) u) t) A))) (by decide) rfl (Nat.le_of_ble_eq_true rfl) ?_
  intro p e s m args below meth c A ls hx hb hr hml hown hts hlocks hname hC hP hD hS hA hl
  have hK := hC.1
  have hown : s.vm.findClass RL = some m.cls := hown
  have hl : lv_has ls 4 [(0, .ref aN), (1, .int (iI rg)), (2, .int (iI po))] := hl
  obtain ⟨H, hH⟩ : ∃ z, z = s.heap := ⟨_, rfl⟩
  obtain ⟨locs, hlo⟩ : ∃ z : List Loc, z = [] := ⟨_, rfl⟩
  obtain ⟨Q9, hQ9⟩ : ∃ z, z = MQ below (va_Qi (fun r u => r = iI ((fun (u : Unit) => bI (fitP be po)) u) ∧ (fun (u : Unit) => True) u) (fun u t => xE g A ((fun (u : Unit) => [(aN, .inl (gI g, 1960, .inl (ar F)))]) u) t) A) args s 0 0 A := ⟨_, rfl⟩
  have hP : va_P (gD g) vwCl [(aN, .inl (gI g, 1960, .inl (ar F)))] H := by rw [hH]; exact hP
  have hS : va_S A s.heap H locs := by rw [hH, hlo]; exact hS
  have goal_ : W p l e { frames := 0, cells := 0, slots := 0, locals := 0 } s m args below meth c H locs 0 0 Q9 (F0 m 0 ls []) := by
    clear hH hlo
    refine lv_iload_n hx hb dL_fits_0 rfl (lv_at hl 1 rfl) ?_
    refine x_if_ne (tgt := 8) hx hb (by omega) dL_fits_1 (by decide) (fun c_1 => ?_) (fun c_1 => ?_)
    · skip
      refine lv_iload_n hx hb dL_fits_8 rfl (lv_at hl 2 rfl) ?_
      refine lv_aload_n hx hb dL_fits_9 rfl (lv_at hl 0 rfl) ?_
      refine x_sipush hx hb dL_fits_10 (by decide) ?_
      refine lv_iload_n hx hb dL_fits_13 rfl (lv_at hl 1 rfl) ?_
      refine x_iadd hx hb dL_fits_14 ?_
      refine x_iald hx hb hK hP 0 0 rfl rfl (by omega) (by omega) (Nat.le_of_ble_eq_true rfl) dL_fits_15 (fun v_2 hv_2 => ?_)
      refine x_isub hx hb dL_fits_16 ?_
      refine x_bipush hx hb dL_fits_17 (by decide) ?_
      refine x_iadd hx hb dL_fits_19 ?_
      refine x_bipush hx hb dL_fits_20 (by decide) ?_
      refine x_irem hx hb (by omega) (by omega) dL_fits_22 ?_
      obtain ⟨v_3, ev_3⟩ : ∃ z : Int, z = ((po - v_2) + 8) % 8 := ⟨_, rfl⟩
      refine x_top ev_3.symm ?_
      refine lv_istore_n (lv' := [(3, .int (iI v_3)), (0, .ref aN), (1, .int (iI rg)), (2, .int (iI po))]) hx hb dL_fits_23 rfl hl (by decide) rfl (fun ls hl => ?_)
      refine lv_iload_n hx hb dL_fits_24 rfl (lv_at hl 0 rfl) ?_
      refine x_iconst hx hb dL_fits_25 ?_
      refine x_irem hx hb (by omega) (by omega) dL_fits_26 ?_
      refine x_if_eq (tgt := 34) hx hb (by omega) dL_fits_27 (by decide) (fun c_4 => ?_) (fun c_4 => ?_)
      · skip
        refine x_iconst hx hb dL_fits_34 ?_
        rw [hQ9]
        exact x_iret hx hb hr hlocks hP hD hS (S := Unit) (by decide) dL_fits_35 () (by
            first
            | (
               first | exact (bI_t (by omega)).symm | exact (bI_f (by omega)).symm)
            | fail "q9") trivial rfl (Nat.le_of_ble_eq_true rfl) (Nat.le_of_ble_eq_true rfl)
      · skip
        refine x_iconst hx hb dL_fits_30 ?_
        refine lv_goto (tgt := 35) hx hb dL_fits_31 (by decide) ?_
        rw [hQ9]
        exact x_iret hx hb hr hlocks hP hD hS (S := Unit) (by decide) dL_fits_35 () (by
            first
            | (
               first | exact (bI_t (by omega)).symm | exact (bI_f (by omega)).symm)
            | fail "q9") trivial rfl (Nat.le_of_ble_eq_true rfl) (Nat.le_of_ble_eq_true rfl)
    · skip
      refine x_iconst hx hb dL_fits_4 ?_
      refine lv_goto (tgt := 23) hx hb dL_fits_5 (by decide) ?_
      refine lv_istore_n (lv' := [(3, .int (iI 1)), (0, .ref aN), (1, .int (iI rg)), (2, .int (iI po))]) hx hb dL_fits_23 rfl hl (by decide) rfl (fun ls hl => ?_)
      refine lv_iload_n hx hb dL_fits_24 rfl (lv_at hl 0 rfl) ?_
      refine x_iconst hx hb dL_fits_25 ?_
      refine x_irem hx hb (by omega) (by omega) dL_fits_26 ?_
      refine x_if_eq (tgt := 34) hx hb (by omega) dL_fits_27 (by decide) (fun c_5 => ?_) (fun c_5 => ?_)
      · skip
        refine x_iconst hx hb dL_fits_34 ?_
        rw [hQ9]
        exact x_iret hx hb hr hlocks hP hD hS (S := Unit) (by decide) dL_fits_35 () (by
            first
            | (
               first | exact (bI_t (by omega)).symm | exact (bI_f (by omega)).symm)
            | fail "q9") trivial rfl (Nat.le_of_ble_eq_true rfl) (Nat.le_of_ble_eq_true rfl)
      · skip
        refine x_iconst hx hb dL_fits_30 ?_
        refine lv_goto (tgt := 35) hx hb dL_fits_31 (by decide) ?_
        rw [hQ9]
        exact x_iret hx hb hr hlocks hP hD hS (S := Unit) (by decide) dL_fits_35 () (by
            first
            | (
               first | exact (bI_t (by omega)).symm | exact (bI_f (by omega)).symm)
            | fail "q9") trivial rfl (Nat.le_of_ble_eq_true rfl) (Nat.le_of_ble_eq_true rfl)
  rw [hH, hlo, hQ9] at goal_
  exact goal_

set_option maxHeartbeats 4000000 in
set_option maxRecDepth 100000 in
theorem c_L_planned (l : Launch) (g : xg) (sz : Nat) (aN : Nat) (rg fm : Int) (F : Int → Int) (pn : Int) (bx : Int → Int) (hpn : 0 ≤ pn ∧ pn ≤ 200) (hrg : 0 ≤ rg ∧ rg ≤ 200) (hfm : 0 ≤ fm ∧ fm ≤ 1000) (hF1 : F 1 = pn) (hpl : ∀ i : Int, 0 ≤ i → i < pn → F (fm + i) = bx i) : Met l yL_planned wsL_planned { frames := 0, cells := 0, slots := 0, locals := 0 } (va_Pc [.ref aN, .int (iI rg), .int (iI fm)] (xB g [(aN, .inl (gI g, 1960, .inl (ar F)))] sz)) (va_Qi (fun r u => r = iI ((fun (u : Unit) => plO pn bx (rg + 1)) u) ∧ (fun (u : Unit) => True) u) (fun u t => xE g (va_A [(aN, .inl (gI g, 1960, .inl (ar F)))] sz) ((fun (u : Unit) => [(aN, .inl (gI g, 1960, .inl (ar F)))]) u) t) (va_A [(aN, .inl (gI g, 1960, .inl (ar F)))] sz)) 0 0 (va_A [(aN, .inl (gI g, 1960, .inl (ar F)))] sz) := by
  refine x_enter (y := yL_planned) (ws := wsL_planned) (g := g) (sz := sz) (av := [.ref aN, .int (iI rg), .int (iI fm)]) (WS := [(aN, .inl (gI g, 1960, .inl (ar F)))]) (cc := cL_planned) (maxL := 5) (ret := some .int) (Qc := (fun A => (va_Qi (fun r u => r = iI ((fun (u : Unit) => plO pn bx (rg + 1)) u) ∧ (fun (u : Unit) => True) u) (fun u t => xE g A ((fun (u : Unit) => [(aN, .inl (gI g, 1960, .inl (ar F)))]) u) t) A))) (by decide) rfl (Nat.le_of_ble_eq_true rfl) ?_
  intro p e s m args below meth c A ls hx hb hr hml hown hts hlocks hname hC hP hD hS hA hl
  have hK := hC.1
  have hown : s.vm.findClass RL = some m.cls := hown
  have hl : lv_has ls 5 [(0, .ref aN), (1, .int (iI rg)), (2, .int (iI fm))] := hl
  obtain ⟨H, hH⟩ : ∃ z, z = s.heap := ⟨_, rfl⟩
  obtain ⟨locs, hlo⟩ : ∃ z : List Loc, z = [] := ⟨_, rfl⟩
  obtain ⟨Q9, hQ9⟩ : ∃ z, z = MQ below (va_Qi (fun r u => r = iI ((fun (u : Unit) => plO pn bx (rg + 1)) u) ∧ (fun (u : Unit) => True) u) (fun u t => xE g A ((fun (u : Unit) => [(aN, .inl (gI g, 1960, .inl (ar F)))]) u) t) A) args s 0 0 A := ⟨_, rfl⟩
  have hP : va_P (gD g) vwCl [(aN, .inl (gI g, 1960, .inl (ar F)))] H := by rw [hH]; exact hP
  have hS : va_S A s.heap H locs := by rw [hH, hlo]; exact hS
  have goal_ : W p l e { frames := 0, cells := 0, slots := 0, locals := 0 } s m args below meth c H locs 0 0 Q9 (F0 m 0 ls []) := by
    clear hH hlo
    refine x_iconst hx hb dL_planned_0 ?_
    refine lv_istore_n (lv' := [(3, .int (iI 0)), (0, .ref aN), (1, .int (iI rg)), (2, .int (iI fm))]) hx hb dL_planned_1 rfl hl (by decide) rfl (fun ls hl => ?_)
    refine x_iconst hx hb dL_planned_2 ?_
    refine lv_istore (lv' := [(4, .int (iI 0)), (3, .int (iI 0)), (0, .ref aN), (1, .int (iI rg)), (2, .int (iI fm))]) hx hb dL_planned_3 hl (by decide) rfl (fun ls hl => ?_)
    have lp5 : ∀ (n : Nat) (zo : Int) (zk : Int), (0 ≤ zk ∧ zk ≤ rg + 1) → (zo = sumI (fun k => (rg - k + 1) * gt0 pn bx k) zk) → rg + 2 - zk ≤ (n : Int) → ∀ (H : Heap) (locs : List Loc), va_P (gD g) vwCl [(aN, .inl (gI g, 1960, .inl (ar F)))] H → va_D A [(aN, .inl (gI g, 1960, .inl (ar F)))] → va_S A s.heap H locs → ∀ (ls : Array Slot), lv_has ls 5 [(4, .int (iI zk)), (3, .int (iI zo)), (0, .ref aN), (1, .int (iI rg)), (2, .int (iI fm))] → W p l e { frames := 0, cells := 0, slots := 0, locals := 0 } s m args below meth c H locs (0) (0) Q9 (F0 m 5 ls []) := by
      intro n
      induction n with
      | zero => intro zo zk hzk hzo hm; exfalso; omega
      | succ n ih5 =>
        intro zo zk hzk hzo hm H locs hP hD hS ls hl
        refine lv_iload hx hb dL_planned_5 (lv_at hl 0 rfl) ?_
        refine lv_iload_n hx hb dL_planned_7 rfl (lv_at hl 3 rfl) ?_
        refine x_cmp_gt (tgt := 41) hx hb (by omega) (by omega) dL_planned_8 (by decide) (fun c_1 => ?_) (fun c_1 => ?_)
        · skip
          refine lv_iload_n hx hb dL_planned_41 rfl (lv_at hl 1 rfl) ?_
          rw [hQ9]
          exact x_iret hx hb hr hlocks hP hD hS (S := Unit) rfl dL_planned_42 () (by
              first
              | (
                 rw [hzo]
                 exact pl_sum (by omega) (by omega) (by omega))
              | fail "q9") trivial rfl (Nat.le_of_ble_eq_true rfl) (Nat.le_of_ble_eq_true rfl)
        · skip
          refine lv_iload hx hb dL_planned_11 (lv_at hl 0 rfl) ?_
          refine lv_aload_n hx hb dL_planned_13 rfl (lv_at hl 2 rfl) ?_
          refine x_iconst hx hb dL_planned_14 ?_
          refine x_iald hx hb hK hP 0 0 rfl rfl (by omega) (by omega) (Nat.le_of_ble_eq_true rfl) dL_planned_15 (fun v_2 hv_2 => ?_)
          refine x_top (show v_2 = pn by
              first
              | (
                 omega)
              | fail "q9") ?_
          refine x_cmp_ge (tgt := 41) hx hb (by omega) (by omega) dL_planned_16 (by decide) (fun c_3 => ?_) (fun c_3 => ?_)
          · skip
            refine lv_iload_n hx hb dL_planned_41 rfl (lv_at hl 1 rfl) ?_
            rw [hQ9]
            exact x_iret hx hb hr hlocks hP hD hS (S := Unit) rfl dL_planned_42 () (by
                first
                | (
                   rw [hzo]
                   exact pl_sum (by omega) (by omega) (by omega))
                | fail "q9") trivial rfl (Nat.le_of_ble_eq_true rfl) (Nat.le_of_ble_eq_true rfl)
          · skip
            refine lv_iload_n hx hb dL_planned_19 rfl (lv_at hl 1 rfl) ?_
            refine lv_iload_n hx hb dL_planned_20 rfl (lv_at hl 3 rfl) ?_
            refine lv_iload hx hb dL_planned_21 (lv_at hl 0 rfl) ?_
            refine x_isub hx hb dL_planned_23 ?_
            refine x_iconst hx hb dL_planned_24 ?_
            refine x_iadd hx hb dL_planned_25 ?_
            refine lv_aload_n hx hb dL_planned_26 rfl (lv_at hl 2 rfl) ?_
            refine lv_iload_n hx hb dL_planned_27 rfl (lv_at hl 4 rfl) ?_
            refine lv_iload hx hb dL_planned_28 (lv_at hl 0 rfl) ?_
            refine x_iadd hx hb dL_planned_30 ?_
            refine x_iald hx hb hK hP 0 0 rfl rfl (by omega) (by omega) (Nat.le_of_ble_eq_true rfl) dL_planned_31 (fun v_4 hv_4 => ?_)
            refine x_top (show v_4 = gt0 pn bx zk by
                first
                | (
                   rw [hv_4, hpl zk (by omega) (by omega), gt0_in (by omega)])
                | fail "q9") ?_
            refine x_imul hx hb dL_planned_32 ?_
            refine x_iadd hx hb dL_planned_33 ?_
            obtain ⟨v_5, ev_5⟩ : ∃ z : Int, z = zo + (((rg - zk) + 1) * (gt0 pn bx zk)) := ⟨_, rfl⟩
            refine x_top ev_5.symm ?_
            refine lv_istore_n (lv' := [(3, .int (iI v_5)), (4, .int (iI zk)), (0, .ref aN), (1, .int (iI rg)), (2, .int (iI fm))]) hx hb dL_planned_34 rfl hl (by decide) rfl (fun ls hl => ?_)
            refine x_iinc (k := 1) (lv' := [(4, .int (iI (zk + 1))), (3, .int (iI v_5)), (0, .ref aN), (1, .int (iI rg)), (2, .int (iI fm))]) hx hb dL_planned_35 hl rfl (by decide) rfl (fun ls hl => ?_)
            refine lv_goto (tgt := 5) hx hb dL_planned_38 (by decide) ?_
            exact ih5 v_5 (zk + 1) (show 0 ≤ (zk + 1) ∧ (zk + 1) ≤ rg + 1 by
                first
                | (
                   first | assumption | omega | rfl)
                | fail "q9") (show v_5 = sumI (fun k => (rg - k + 1) * gt0 pn bx k) (zk + 1) by
                first
                | (
                   rw [sumI_step _ (by omega), ← hzo]
                   show v_5 = zo + (rg - zk + 1) * gt0 pn bx zk
                   assumption)
                | fail "q9") (by
                first
                | (
                   omega)
                | fail "q9") _ _ hP hD hS ls (lv_sub hl [0, 1, 2, 3, 4] rfl)
    exact lp5 (rg + 2 - 0 : Int).toNat 0 0 (show 0 ≤ 0 ∧ 0 ≤ rg + 1 by
        first
        | (
           first | assumption | omega | rfl)
        | fail "q9") (show 0 = sumI (fun k => (rg - k + 1) * gt0 pn bx k) 0 by
        first
        | (
           rfl)
        | fail "q9") (by omega) _ _ hP hD hS ls (lv_sub hl [0, 1, 2, 3, 4] rfl)
  rw [hH, hlo, hQ9] at goal_
  exact goal_

set_option maxHeartbeats 4000000 in
set_option maxRecDepth 100000 in
theorem c_L_apart (l : Launch) (g : xg) (sz : Nat) (aN : Nat) (rg xx yy : Int) (F : Int → Int) (pn : Int) (bx : Int → Int) (byy : Int → Int) (hpn : 0 ≤ pn ∧ pn ≤ 200) (hrg : 0 ≤ rg ∧ rg ≤ 200) (hF1 : F 1 = pn) (hplx : ∀ i : Int, 0 ≤ i → i < pn → F (420 + i) = bx i) (hply : ∀ i : Int, 0 ≤ i → i < pn → F (620 + i) = byy i) (hb_bx : bnd bx (-5) 5) (hb_byy : bnd byy (-5) 5) (hxx : -1000000 ≤ xx ∧ xx ≤ 1000000) (hyy : -1000000 ≤ yy ∧ yy ≤ 1000000) : Met l yL_apart wsL_apart { frames := 1, cells := 0, slots := 0, locals := 24 } (va_Pc [.ref aN, .int (iI rg), .int (iI xx), .int (iI yy)] (xB g [(aN, .inl (gI g, 1960, .inl (ar F)))] sz)) (va_Qi (fun r u => r = iI ((fun (u : Unit) => aI (xx - plO pn bx (rg + 1)) + aI (yy - plO pn byy (rg + 1))) u) ∧ (fun (u : Unit) => 0 ≤ (aI (xx - plO pn bx (rg + 1)) + aI (yy - plO pn byy (rg + 1))) ∧ (aI (xx - plO pn bx (rg + 1)) + aI (yy - plO pn byy (rg + 1))) ≤ 3000000) u) (fun u t => xE g (va_A [(aN, .inl (gI g, 1960, .inl (ar F)))] sz) ((fun (u : Unit) => [(aN, .inl (gI g, 1960, .inl (ar F)))]) u) t) (va_A [(aN, .inl (gI g, 1960, .inl (ar F)))] sz)) 0 0 (va_A [(aN, .inl (gI g, 1960, .inl (ar F)))] sz) := by
  refine x_enter (y := yL_apart) (ws := wsL_apart) (g := g) (sz := sz) (av := [.ref aN, .int (iI rg), .int (iI xx), .int (iI yy)]) (WS := [(aN, .inl (gI g, 1960, .inl (ar F)))]) (cc := cL_apart) (maxL := 6) (ret := some .int) (Qc := (fun A => (va_Qi (fun r u => r = iI ((fun (u : Unit) => aI (xx - plO pn bx (rg + 1)) + aI (yy - plO pn byy (rg + 1))) u) ∧ (fun (u : Unit) => 0 ≤ (aI (xx - plO pn bx (rg + 1)) + aI (yy - plO pn byy (rg + 1))) ∧ (aI (xx - plO pn bx (rg + 1)) + aI (yy - plO pn byy (rg + 1))) ≤ 3000000) u) (fun u t => xE g A ((fun (u : Unit) => [(aN, .inl (gI g, 1960, .inl (ar F)))]) u) t) A))) (by decide) rfl (Nat.le_of_ble_eq_true rfl) ?_
  intro p e s m args below meth c A ls hx hb hr hml hown hts hlocks hname hC hP hD hS hA hl
  have hK := hC.1
  have hown : s.vm.findClass RL = some m.cls := hown
  have hl : lv_has ls 6 [(0, .ref aN), (1, .int (iI rg)), (2, .int (iI xx)), (3, .int (iI yy))] := hl
  obtain ⟨H, hH⟩ : ∃ z, z = s.heap := ⟨_, rfl⟩
  obtain ⟨locs, hlo⟩ : ∃ z : List Loc, z = [] := ⟨_, rfl⟩
  obtain ⟨Q9, hQ9⟩ : ∃ z, z = MQ below (va_Qi (fun r u => r = iI ((fun (u : Unit) => aI (xx - plO pn bx (rg + 1)) + aI (yy - plO pn byy (rg + 1))) u) ∧ (fun (u : Unit) => 0 ≤ (aI (xx - plO pn bx (rg + 1)) + aI (yy - plO pn byy (rg + 1))) ∧ (aI (xx - plO pn bx (rg + 1)) + aI (yy - plO pn byy (rg + 1))) ≤ 3000000) u) (fun u t => xE g A ((fun (u : Unit) => [(aN, .inl (gI g, 1960, .inl (ar F)))]) u) t) A) args s 0 0 A := ⟨_, rfl⟩
  have hP : va_P (gD g) vwCl [(aN, .inl (gI g, 1960, .inl (ar F)))] H := by rw [hH]; exact hP
  have hS : va_S A s.heap H locs := by rw [hH, hlo]; exact hS
  have goal_ : W p l e { frames := 1, cells := 0, slots := 0, locals := 24 } s m args below meth c H locs 0 0 Q9 (F0 m 0 ls []) := by
    clear hH hlo
    have px := plO_b (pn := pn) hb_bx (n := rg + 1) (by omega) (by omega)
    have py := plO_b (pn := pn) hb_byy (n := rg + 1) (by omega) (by omega)
    refine lv_iload_n hx hb dL_apart_0 rfl (lv_at hl 2 rfl) ?_
    refine lv_aload_n hx hb dL_apart_1 rfl (lv_at hl 0 rfl) ?_
    refine lv_iload_n hx hb dL_apart_2 rfl (lv_at hl 1 rfl) ?_
    refine x_sipush hx hb dL_apart_3 (by decide) ?_
    refine x_calli (S := Unit) (wc := [(aN, .inl (gI g, 1960, .inl (ar F)))]) (wr := []) hC hP hD hS hA [0] [] [0] rfl rfl (fun hpre => va_runS (As := [.ref aN, .int (iI rg), .int (iI 420)]) (rest := [.int (iI xx)]) ⟨hx, hb, hml, hown, hts⟩ (c_L_planned l g H.size aN rg 420 F pn bx (by first | (first | assumption | omega | exact bnd_up (by assumption) (by omega) (by omega)) | fail "q8") (by first | (first | assumption | omega | exact bnd_up (by assumption) (by omega) (by omega)) | fail "q8") (by first | (first | assumption | omega | exact bnd_up (by assumption) (by omega) (by omega)) | fail "q8") (by first | (first | assumption | omega | exact bnd_up (by assumption) (by omega) (by omega)) | fail "q8") (by first | (exact hplx) | fail "q8")) (va_cwS 3 hts gL_apart_L_planned rfl rfl rfl (by decide +kernel) ⟨Nat.le_of_ble_eq_true rfl, Nat.le_of_ble_eq_true rfl⟩) ⟨xB_blind, hpre _⟩ rfl rfl hl.1 rfl (lv_room (Nat.le_of_ble_eq_true rfl)) dL_apart_6 ⟨Nat.le_of_ble_eq_true rfl, Nat.le_of_ble_eq_true rfl⟩) (fun (u : Unit) => [(aN, .inl (gI g, 1960, .inl (ar F)))]) rfl rfl (by decide) (fun _ => rfl) rfl (fun u v_1 H locs hv_1 pv_1 hP hD hS => ?_)
    have hP : va_P (gD g) vwCl [(aN, .inl (gI g, 1960, .inl (ar F)))] H := hP
    have hD : va_D A [(aN, .inl (gI g, 1960, .inl (ar F)))] := hD
    have hv_1 : v_1 = plO pn bx (rg + 1) := hv_1
    refine x_isub hx hb dL_apart_9 ?_
    obtain ⟨v_2, ev_2⟩ : ∃ z : Int, z = xx - v_1 := ⟨_, rfl⟩
    refine x_top ev_2.symm ?_
    refine lv_istore (lv' := [(4, .int (iI v_2)), (0, .ref aN), (1, .int (iI rg)), (2, .int (iI xx)), (3, .int (iI yy))]) hx hb dL_apart_10 hl (by decide) rfl (fun ls hl => ?_)
    refine lv_iload_n hx hb dL_apart_12 rfl (lv_at hl 4 rfl) ?_
    refine lv_aload_n hx hb dL_apart_13 rfl (lv_at hl 1 rfl) ?_
    refine lv_iload_n hx hb dL_apart_14 rfl (lv_at hl 2 rfl) ?_
    refine x_sipush hx hb dL_apart_15 (by decide) ?_
    refine x_calli (S := Unit) (wc := [(aN, .inl (gI g, 1960, .inl (ar F)))]) (wr := []) hC hP hD hS hA [0] [] [0] rfl rfl (fun hpre => va_runS (As := [.ref aN, .int (iI rg), .int (iI 620)]) (rest := [.int (iI yy)]) ⟨hx, hb, hml, hown, hts⟩ (c_L_planned l g H.size aN rg 620 F pn byy (by first | (first | assumption | omega | exact bnd_up (by assumption) (by omega) (by omega)) | fail "q8") (by first | (first | assumption | omega | exact bnd_up (by assumption) (by omega) (by omega)) | fail "q8") (by first | (first | assumption | omega | exact bnd_up (by assumption) (by omega) (by omega)) | fail "q8") (by first | (first | assumption | omega | exact bnd_up (by assumption) (by omega) (by omega)) | fail "q8") (by first | (exact hply) | fail "q8")) (va_cwS 3 hts gL_apart_L_planned rfl rfl rfl (by decide +kernel) ⟨Nat.le_of_ble_eq_true rfl, Nat.le_of_ble_eq_true rfl⟩) ⟨xB_blind, hpre _⟩ rfl rfl hl.1 rfl (lv_room (Nat.le_of_ble_eq_true rfl)) dL_apart_18 ⟨Nat.le_of_ble_eq_true rfl, Nat.le_of_ble_eq_true rfl⟩) (fun (u : Unit) => [(aN, .inl (gI g, 1960, .inl (ar F)))]) rfl rfl (by decide) (fun _ => rfl) rfl (fun u v_3 H locs hv_3 pv_3 hP hD hS => ?_)
    have hP : va_P (gD g) vwCl [(aN, .inl (gI g, 1960, .inl (ar F)))] H := hP
    have hD : va_D A [(aN, .inl (gI g, 1960, .inl (ar F)))] := hD
    have hv_3 : v_3 = plO pn byy (rg + 1) := hv_3
    refine x_isub hx hb dL_apart_21 ?_
    obtain ⟨v_4, ev_4⟩ : ∃ z : Int, z = yy - v_3 := ⟨_, rfl⟩
    refine x_top ev_4.symm ?_
    refine lv_istore (lv' := [(5, .int (iI v_4)), (4, .int (iI v_2)), (0, .ref aN), (1, .int (iI rg)), (2, .int (iI xx)), (3, .int (iI yy))]) hx hb dL_apart_22 hl (by decide) rfl (fun ls hl => ?_)
    refine lv_iload hx hb dL_apart_24 (lv_at hl 1 rfl) ?_
    refine x_if_ge (tgt := 35) hx hb (by omega) dL_apart_26 (by decide) (fun c_5 => ?_) (fun c_5 => ?_)
    · skip
      refine lv_iload hx hb dL_apart_35 (lv_at hl 1 rfl) ?_
      refine lv_iload hx hb dL_apart_37 (lv_at hl 0 rfl) ?_
      refine x_if_ge (tgt := 48) hx hb (by omega) dL_apart_39 (by decide) (fun c_6 => ?_) (fun c_6 => ?_)
      · skip
        refine lv_iload hx hb dL_apart_48 (lv_at hl 0 rfl) ?_
        refine x_iadd hx hb dL_apart_50 ?_
        rw [hQ9]
        exact x_iret hx hb hr hlocks hP hD hS (S := Unit) rfl dL_apart_51 () (by
            first
            | (
               unfold aI
               omega)
            | fail "q9") (by
            first
            | (
               have q1 := aI_r (xx - plO pn bx (rg + 1)) rfl
               have q2 := aI_r (yy - plO pn byy (rg + 1)) rfl
               omega)
            | fail "q9") rfl (Nat.le_of_ble_eq_true rfl) (Nat.le_of_ble_eq_true rfl)
      · skip
        refine lv_iload hx hb dL_apart_42 (lv_at hl 0 rfl) ?_
        refine x_ineg hx hb dL_apart_44 ?_
        refine lv_goto (tgt := 50) hx hb dL_apart_45 (by decide) ?_
        refine x_iadd hx hb dL_apart_50 ?_
        rw [hQ9]
        exact x_iret hx hb hr hlocks hP hD hS (S := Unit) rfl dL_apart_51 () (by
            first
            | (
               unfold aI
               omega)
            | fail "q9") (by
            first
            | (
               have q1 := aI_r (xx - plO pn bx (rg + 1)) rfl
               have q2 := aI_r (yy - plO pn byy (rg + 1)) rfl
               omega)
            | fail "q9") rfl (Nat.le_of_ble_eq_true rfl) (Nat.le_of_ble_eq_true rfl)
    · skip
      refine lv_iload hx hb dL_apart_29 (lv_at hl 1 rfl) ?_
      refine x_ineg hx hb dL_apart_31 ?_
      refine lv_goto (tgt := 37) hx hb dL_apart_32 (by decide) ?_
      refine lv_iload hx hb dL_apart_37 (lv_at hl 0 rfl) ?_
      refine x_if_ge (tgt := 48) hx hb (by omega) dL_apart_39 (by decide) (fun c_7 => ?_) (fun c_7 => ?_)
      · skip
        refine lv_iload hx hb dL_apart_48 (lv_at hl 0 rfl) ?_
        refine x_iadd hx hb dL_apart_50 ?_
        rw [hQ9]
        exact x_iret hx hb hr hlocks hP hD hS (S := Unit) rfl dL_apart_51 () (by
            first
            | (
               unfold aI
               omega)
            | fail "q9") (by
            first
            | (
               have q1 := aI_r (xx - plO pn bx (rg + 1)) rfl
               have q2 := aI_r (yy - plO pn byy (rg + 1)) rfl
               omega)
            | fail "q9") rfl (Nat.le_of_ble_eq_true rfl) (Nat.le_of_ble_eq_true rfl)
      · skip
        refine lv_iload hx hb dL_apart_42 (lv_at hl 0 rfl) ?_
        refine x_ineg hx hb dL_apart_44 ?_
        refine lv_goto (tgt := 50) hx hb dL_apart_45 (by decide) ?_
        refine x_iadd hx hb dL_apart_50 ?_
        rw [hQ9]
        exact x_iret hx hb hr hlocks hP hD hS (S := Unit) rfl dL_apart_51 () (by
            first
            | (
               unfold aI
               omega)
            | fail "q9") (by
            first
            | (
               have q1 := aI_r (xx - plO pn bx (rg + 1)) rfl
               have q2 := aI_r (yy - plO pn byy (rg + 1)) rfl
               omega)
            | fail "q9") rfl (Nat.le_of_ble_eq_true rfl) (Nat.le_of_ble_eq_true rfl)
  rw [hH, hlo, hQ9] at goal_
  exact goal_

set_option maxHeartbeats 4000000 in
set_option maxRecDepth 100000 in
theorem c_L_offset1 (l : Launch) (g : xg) (sz : Nat) (aN : Nat) (n_ : Int) (F : Int → Int) (tp : Int → Int) (tt : Int → Int) (hn : 0 ≤ n_ ∧ n_ ≤ 201) (htp : ∀ i : Int, 0 ≤ i → i < n_ → F (1020 + i) = tp i) (htt : ∀ i : Int, 0 ≤ i → i < n_ → F (1220 + i) = tt i) (hb_tp : bnd tp 0 7) : Met l yL_offset wsL_offset { frames := 1, cells := 205, slots := 1640, locals := 21 } (va_Pc [.ref aN, .int (iI n_), .int (iI 1)] (xB g [(aN, .inl (gI g, 1960, .inl (ar F)))] sz)) (va_Qi (fun r u => r = iI ((fun (u : Unit) => lnO tt tp toSide n_) u) ∧ (fun (u : Unit) => True) u) (fun u t => xE g (va_A [(aN, .inl (gI g, 1960, .inl (ar F)))] sz) ((fun (u : Unit) => [(aN, .inl (gI g, 1960, .inl (ar F)))]) u) t) (va_A [(aN, .inl (gI g, 1960, .inl (ar F)))] sz)) 205 1640 (va_A [(aN, .inl (gI g, 1960, .inl (ar F)))] sz) := by
  refine x_enter (y := yL_offset) (ws := wsL_offset) (g := g) (sz := sz) (av := [.ref aN, .int (iI n_), .int (iI 1)]) (WS := [(aN, .inl (gI g, 1960, .inl (ar F)))]) (cc := cL_offset) (maxL := 6) (ret := some .int) (Qc := (fun A => (va_Qi (fun r u => r = iI ((fun (u : Unit) => lnO tt tp toSide n_) u) ∧ (fun (u : Unit) => True) u) (fun u t => xE g A ((fun (u : Unit) => [(aN, .inl (gI g, 1960, .inl (ar F)))]) u) t) A))) (by decide) rfl (Nat.le_of_ble_eq_true rfl) ?_
  intro p e s m args below meth c A ls hx hb hr hml hown hts hlocks hname hC hP hD hS hA hl
  have hK := hC.1
  have hown : s.vm.findClass RL = some m.cls := hown
  have hl : lv_has ls 6 [(0, .ref aN), (1, .int (iI n_)), (2, .int (iI 1))] := hl
  obtain ⟨H, hH⟩ : ∃ z, z = s.heap := ⟨_, rfl⟩
  obtain ⟨locs, hlo⟩ : ∃ z : List Loc, z = [] := ⟨_, rfl⟩
  obtain ⟨Q9, hQ9⟩ : ∃ z, z = MQ below (va_Qi (fun r u => r = iI ((fun (u : Unit) => lnO tt tp toSide n_) u) ∧ (fun (u : Unit) => True) u) (fun u t => xE g A ((fun (u : Unit) => [(aN, .inl (gI g, 1960, .inl (ar F)))]) u) t) A) args s 205 1640 A := ⟨_, rfl⟩
  have hP : va_P (gD g) vwCl [(aN, .inl (gI g, 1960, .inl (ar F)))] H := by rw [hH]; exact hP
  have hS : va_S A s.heap H locs := by rw [hH, hlo]; exact hS
  have goal_ : W p l e { frames := 1, cells := 205, slots := 1640, locals := 21 } s m args below meth c H locs 0 0 Q9 (F0 m 0 ls []) := by
    clear hH hlo
    refine x_iconst hx hb dL_offset_0 ?_
    refine lv_istore_n (lv' := [(3, .int (iI 0)), (0, .ref aN), (1, .int (iI n_)), (2, .int (iI 1))]) hx hb dL_offset_1 rfl hl (by decide) rfl (fun ls hl => ?_)
    refine x_iconst hx hb dL_offset_2 ?_
    refine lv_istore (lv' := [(4, .int (iI 0)), (3, .int (iI 0)), (0, .ref aN), (1, .int (iI n_)), (2, .int (iI 1))]) hx hb dL_offset_3 hl (by decide) rfl (fun ls hl => ?_)
    have lp5 : ∀ (n : Nat) (zo : Int) (zk : Int), ∀ (cz5 sz5 : Nat), cz5 + 1 * n ≤ 205 → sz5 + 8 * n ≤ 1640 → (0 ≤ zk ∧ zk ≤ n_) → (zo = sumI (fun k => (n_ - k) * (tt k * toSide (tp k))) zk) → n_ + 1 - zk ≤ (n : Int) → ∀ (H : Heap) (locs : List Loc), va_P (gD g) vwCl [(aN, .inl (gI g, 1960, .inl (ar F)))] H → va_D A [(aN, .inl (gI g, 1960, .inl (ar F)))] → va_S A s.heap H locs → ∀ (ls : Array Slot), lv_has ls 6 [(4, .int (iI zk)), (3, .int (iI zo)), (0, .ref aN), (1, .int (iI n_)), (2, .int (iI 1))] → W p l e { frames := 1, cells := 205, slots := 1640, locals := 21 } s m args below meth c H locs (cz5) (sz5) Q9 (F0 m 5 ls []) := by
      intro n
      induction n with
      | zero => intro zo zk cz5 sz5 hcz5 hsz5 hzk hzo hm; exfalso; omega
      | succ n ih5 =>
        intro zo zk cz5 sz5 hcz5 hsz5 hzk hzo hm H locs hP hD hS ls hl
        refine lv_iload hx hb dL_offset_5 (lv_at hl 0 rfl) ?_
        refine lv_iload_n hx hb dL_offset_7 rfl (lv_at hl 3 rfl) ?_
        refine x_cmp_ge (tgt := 67) hx hb (by omega) (by omega) dL_offset_8 (by decide) (fun c_1 => ?_) (fun c_1 => ?_)
        · skip
          refine lv_iload_n hx hb dL_offset_67 rfl (lv_at hl 1 rfl) ?_
          rw [hQ9]
          exact x_iret hx hb hr hlocks hP hD hS (S := Unit) rfl dL_offset_68 () (by
              first
              | (
                 rw [hzo, show zk = n_ by omega]
                 exact ln_sum (by omega))
              | fail "q9") trivial rfl (by omega) (by omega)
        · skip
          refine lv_iload_n hx hb dL_offset_11 rfl (lv_at hl 4 rfl) ?_
          refine x_if_eq (tgt := 29) hx hb (by omega) dL_offset_12 (by decide) (fun c_2 => ?_) (fun c_2 => ?_)
          · skip
            exact absurd c_2 (by decide)
          · skip
            refine lv_aload_n hx hb dL_offset_15 rfl (lv_at hl 2 rfl) ?_
            refine x_sipush hx hb dL_offset_16 (by decide) ?_
            refine lv_iload hx hb dL_offset_19 (lv_at hl 0 rfl) ?_
            refine x_iadd hx hb dL_offset_21 ?_
            have htz := hb_tp zk
            refine x_iald hx hb hK hP 0 0 rfl rfl (by omega) (by omega) (Nat.le_of_ble_eq_true rfl) dL_offset_22 (fun v_3 hv_3 => ?_)
            refine x_top (show v_3 = tp zk by
                first
                | (
                   rw [hv_3]; exact htp zk (by omega) (by omega))
                | fail "q9") ?_
            refine x_calli (S := Unit) (wc := []) (wr := [(aN, .inl (gI g, 1960, .inl (ar F)))]) hC hP hD hS hA [] [0] [0] rfl rfl (fun hpre => va_runS (As := [.int (iI (tp zk))]) (rest := []) ⟨hx, hb, hml, hown, hts⟩ (c_L_side l g H.size (tp zk) (by first | (first | assumption | omega | exact bnd_up (by assumption) (by omega) (by omega)) | fail "q8")) (va_cwS 1 hts gL_offset_L_side rfl rfl rfl (by decide +kernel) ⟨Nat.le_of_ble_eq_true rfl, Nat.le_of_ble_eq_true rfl⟩) ⟨xB_blind, hpre _⟩ rfl rfl hl.1 rfl (lv_room (Nat.le_of_ble_eq_true rfl)) dL_offset_23 ⟨(show cz5 + 1 ≤ 205 by omega), (show sz5 + 8 ≤ 1640 by omega)⟩) (fun (u : Unit) => [(aN, .inl (gI g, 1960, .inl (ar F)))]) rfl rfl (by decide) (fun _ => rfl) rfl (fun u v_4 H locs hv_4 pv_4 hP hD hS => ?_)
            have hP : va_P (gD g) vwCl [(aN, .inl (gI g, 1960, .inl (ar F)))] H := hP
            have hD : va_D A [(aN, .inl (gI g, 1960, .inl (ar F)))] := hD
            have hv_4 : v_4 = toSide (tp zk) := hv_4
            have yv_4 : v_4 = toSide (tp zk) := by
                first
                | (
                   exact hv_4)
                | fail "q9"
            refine x_top yv_4 ?_
            refine lv_goto (tgt := 40) hx hb dL_offset_26 (by decide) ?_
            obtain ⟨v_5, ev_5⟩ : ∃ z : Int, z = toSide (tp zk) := ⟨_, rfl⟩
            refine x_top ev_5.symm ?_
            refine lv_istore (lv' := [(5, .int (iI v_5)), (4, .int (iI zk)), (3, .int (iI zo)), (0, .ref aN), (1, .int (iI n_)), (2, .int (iI 1))]) hx hb dL_offset_40 hl (by decide) rfl (fun ls hl => ?_)
            refine lv_iload_n hx hb dL_offset_42 rfl (lv_at hl 2 rfl) ?_
            refine lv_iload_n hx hb dL_offset_43 rfl (lv_at hl 4 rfl) ?_
            refine lv_iload hx hb dL_offset_44 (lv_at hl 1 rfl) ?_
            refine x_isub hx hb dL_offset_46 ?_
            refine lv_aload_n hx hb dL_offset_47 rfl (lv_at hl 3 rfl) ?_
            refine x_sipush hx hb dL_offset_48 (by decide) ?_
            refine lv_iload hx hb dL_offset_51 (lv_at hl 1 rfl) ?_
            refine x_iadd hx hb dL_offset_53 ?_
            refine x_iald hx hb hK hP 0 0 rfl rfl (by omega) (by omega) (Nat.le_of_ble_eq_true rfl) dL_offset_54 (fun v_6 hv_6 => ?_)
            refine x_top (show v_6 = tt zk by
                first
                | (
                   rw [hv_6]; exact htt zk (by omega) (by omega))
                | fail "q9") ?_
            refine x_imul hx hb dL_offset_55 ?_
            refine lv_iload hx hb dL_offset_56 (lv_at hl 0 rfl) ?_
            refine x_imul hx hb dL_offset_58 ?_
            refine x_iadd hx hb dL_offset_59 ?_
            obtain ⟨v_7, ev_7⟩ : ∃ z : Int, z = zo + (((n_ - zk) * (tt zk)) * v_5) := ⟨_, rfl⟩
            refine x_top ev_7.symm ?_
            refine lv_istore_n (lv' := [(3, .int (iI v_7)), (5, .int (iI v_5)), (4, .int (iI zk)), (0, .ref aN), (1, .int (iI n_)), (2, .int (iI 1))]) hx hb dL_offset_60 rfl hl (by decide) rfl (fun ls hl => ?_)
            refine x_iinc (k := 2) (lv' := [(4, .int (iI (zk + 1))), (3, .int (iI v_7)), (5, .int (iI v_5)), (0, .ref aN), (1, .int (iI n_)), (2, .int (iI 1))]) hx hb dL_offset_61 hl rfl (by decide) rfl (fun ls hl => ?_)
            refine lv_goto (tgt := 5) hx hb dL_offset_64 (by decide) ?_
            exact ih5 v_7 (zk + 1) _ _ (by omega) (by omega) (show 0 ≤ (zk + 1) ∧ (zk + 1) ≤ n_ by
                first
                | (
                   first | assumption | omega | rfl)
                | fail "q9") (show v_7 = sumI (fun k => (n_ - k) * (tt k * toSide (tp k))) (zk + 1) by
                first
                | (
                   rw [sumI_step _ (by omega), ← hzo]
                   show v_7 = zo + (n_ - zk) * (tt zk * toSide (tp zk))
                   rw [← Int.mul_assoc]
                   have q5 : v_5 = toSide (tp zk) := by assumption
                   rw [← q5]
                   assumption)
                | fail "q9") (by
                first
                | (
                   omega)
                | fail "q9") _ _ hP hD hS ls (lv_sub hl [0, 1, 3, 4, 5] rfl)
    exact lp5 (n_ + 1 - 0 : Int).toNat 0 0 _ _ (by omega) (by omega) (show 0 ≤ 0 ∧ 0 ≤ n_ by
        first
        | (
           first | assumption | omega | rfl)
        | fail "q9") (show 0 = sumI (fun k => (n_ - k) * (tt k * toSide (tp k))) 0 by
        first
        | (
           rfl)
        | fail "q9") (by omega) _ _ hP hD hS ls (lv_sub hl [0, 1, 2, 3, 4] rfl)
  rw [hH, hlo, hQ9] at goal_
  exact goal_

set_option maxHeartbeats 4000000 in
set_option maxRecDepth 100000 in
theorem c_L_offset0 (l : Launch) (g : xg) (sz : Nat) (aN : Nat) (n_ : Int) (F : Int → Int) (tp : Int → Int) (tt : Int → Int) (hn : 0 ≤ n_ ∧ n_ ≤ 201) (htp : ∀ i : Int, 0 ≤ i → i < n_ → F (1020 + i) = tp i) (htt : ∀ i : Int, 0 ≤ i → i < n_ → F (1220 + i) = tt i) (hb_tp : bnd tp 0 7) : Met l yL_offset wsL_offset { frames := 2, cells := 205, slots := 1640, locals := 41 } (va_Pc [.ref aN, .int (iI n_), .int (iI 0)] (xB g [(aN, .inl (gI g, 1960, .inl (ar F)))] sz)) (va_Qi (fun r u => r = iI ((fun (u : Unit) => lnO tt tp upward n_) u) ∧ (fun (u : Unit) => True) u) (fun u t => xE g (va_A [(aN, .inl (gI g, 1960, .inl (ar F)))] sz) ((fun (u : Unit) => [(aN, .inl (gI g, 1960, .inl (ar F)))]) u) t) (va_A [(aN, .inl (gI g, 1960, .inl (ar F)))] sz)) 205 1640 (va_A [(aN, .inl (gI g, 1960, .inl (ar F)))] sz) := by
  refine x_enter (y := yL_offset) (ws := wsL_offset) (g := g) (sz := sz) (av := [.ref aN, .int (iI n_), .int (iI 0)]) (WS := [(aN, .inl (gI g, 1960, .inl (ar F)))]) (cc := cL_offset) (maxL := 6) (ret := some .int) (Qc := (fun A => (va_Qi (fun r u => r = iI ((fun (u : Unit) => lnO tt tp upward n_) u) ∧ (fun (u : Unit) => True) u) (fun u t => xE g A ((fun (u : Unit) => [(aN, .inl (gI g, 1960, .inl (ar F)))]) u) t) A))) (by decide) rfl (Nat.le_of_ble_eq_true rfl) ?_
  intro p e s m args below meth c A ls hx hb hr hml hown hts hlocks hname hC hP hD hS hA hl
  have hK := hC.1
  have hown : s.vm.findClass RL = some m.cls := hown
  have hl : lv_has ls 6 [(0, .ref aN), (1, .int (iI n_)), (2, .int (iI 0))] := hl
  obtain ⟨H, hH⟩ : ∃ z, z = s.heap := ⟨_, rfl⟩
  obtain ⟨locs, hlo⟩ : ∃ z : List Loc, z = [] := ⟨_, rfl⟩
  obtain ⟨Q9, hQ9⟩ : ∃ z, z = MQ below (va_Qi (fun r u => r = iI ((fun (u : Unit) => lnO tt tp upward n_) u) ∧ (fun (u : Unit) => True) u) (fun u t => xE g A ((fun (u : Unit) => [(aN, .inl (gI g, 1960, .inl (ar F)))]) u) t) A) args s 205 1640 A := ⟨_, rfl⟩
  have hP : va_P (gD g) vwCl [(aN, .inl (gI g, 1960, .inl (ar F)))] H := by rw [hH]; exact hP
  have hS : va_S A s.heap H locs := by rw [hH, hlo]; exact hS
  have goal_ : W p l e { frames := 2, cells := 205, slots := 1640, locals := 41 } s m args below meth c H locs 0 0 Q9 (F0 m 0 ls []) := by
    clear hH hlo
    refine x_iconst hx hb dL_offset_0 ?_
    refine lv_istore_n (lv' := [(3, .int (iI 0)), (0, .ref aN), (1, .int (iI n_)), (2, .int (iI 0))]) hx hb dL_offset_1 rfl hl (by decide) rfl (fun ls hl => ?_)
    refine x_iconst hx hb dL_offset_2 ?_
    refine lv_istore (lv' := [(4, .int (iI 0)), (3, .int (iI 0)), (0, .ref aN), (1, .int (iI n_)), (2, .int (iI 0))]) hx hb dL_offset_3 hl (by decide) rfl (fun ls hl => ?_)
    have lp5 : ∀ (n : Nat) (zo : Int) (zk : Int), ∀ (cz5 sz5 : Nat), cz5 + 1 * n ≤ 205 → sz5 + 8 * n ≤ 1640 → (0 ≤ zk ∧ zk ≤ n_) → (zo = sumI (fun k => (n_ - k) * (tt k * upward (tp k))) zk) → n_ + 1 - zk ≤ (n : Int) → ∀ (H : Heap) (locs : List Loc), va_P (gD g) vwCl [(aN, .inl (gI g, 1960, .inl (ar F)))] H → va_D A [(aN, .inl (gI g, 1960, .inl (ar F)))] → va_S A s.heap H locs → ∀ (ls : Array Slot), lv_has ls 6 [(4, .int (iI zk)), (3, .int (iI zo)), (0, .ref aN), (1, .int (iI n_)), (2, .int (iI 0))] → W p l e { frames := 2, cells := 205, slots := 1640, locals := 41 } s m args below meth c H locs (cz5) (sz5) Q9 (F0 m 5 ls []) := by
      intro n
      induction n with
      | zero => intro zo zk cz5 sz5 hcz5 hsz5 hzk hzo hm; exfalso; omega
      | succ n ih5 =>
        intro zo zk cz5 sz5 hcz5 hsz5 hzk hzo hm H locs hP hD hS ls hl
        refine lv_iload hx hb dL_offset_5 (lv_at hl 0 rfl) ?_
        refine lv_iload_n hx hb dL_offset_7 rfl (lv_at hl 3 rfl) ?_
        refine x_cmp_ge (tgt := 67) hx hb (by omega) (by omega) dL_offset_8 (by decide) (fun c_1 => ?_) (fun c_1 => ?_)
        · skip
          refine lv_iload_n hx hb dL_offset_67 rfl (lv_at hl 1 rfl) ?_
          rw [hQ9]
          exact x_iret hx hb hr hlocks hP hD hS (S := Unit) rfl dL_offset_68 () (by
              first
              | (
                 rw [hzo, show zk = n_ by omega]
                 exact ln_sum (by omega))
              | fail "q9") trivial rfl (by omega) (by omega)
        · skip
          refine lv_iload_n hx hb dL_offset_11 rfl (lv_at hl 4 rfl) ?_
          refine x_if_eq (tgt := 29) hx hb (by omega) dL_offset_12 (by decide) (fun c_2 => ?_) (fun c_2 => ?_)
          · skip
            refine lv_aload_n hx hb dL_offset_29 rfl (lv_at hl 2 rfl) ?_
            refine x_sipush hx hb dL_offset_30 (by decide) ?_
            refine lv_iload hx hb dL_offset_33 (lv_at hl 0 rfl) ?_
            refine x_iadd hx hb dL_offset_35 ?_
            have htz := hb_tp zk
            refine x_iald hx hb hK hP 0 0 rfl rfl (by omega) (by omega) (Nat.le_of_ble_eq_true rfl) dL_offset_36 (fun v_3 hv_3 => ?_)
            refine x_top (show v_3 = tp zk by
                first
                | (
                   rw [hv_3]; exact htp zk (by omega) (by omega))
                | fail "q9") ?_
            refine x_calli (S := Unit) (wc := []) (wr := [(aN, .inl (gI g, 1960, .inl (ar F)))]) hC hP hD hS hA [] [0] [0] rfl rfl (fun hpre => va_runS (As := [.int (iI (tp zk))]) (rest := []) ⟨hx, hb, hml, hown, hts⟩ (c_L_upward l g H.size (tp zk) (by first | (first | assumption | omega | exact bnd_up (by assumption) (by omega) (by omega)) | fail "q8")) (va_cwS 1 hts gL_offset_L_upward rfl rfl rfl (by decide +kernel) ⟨Nat.le_of_ble_eq_true rfl, Nat.le_of_ble_eq_true rfl⟩) ⟨xB_blind, hpre _⟩ rfl rfl hl.1 rfl (lv_room (Nat.le_of_ble_eq_true rfl)) dL_offset_37 ⟨(show cz5 + 1 ≤ 205 by omega), (show sz5 + 8 ≤ 1640 by omega)⟩) (fun (u : Unit) => [(aN, .inl (gI g, 1960, .inl (ar F)))]) rfl rfl (by decide) (fun _ => rfl) rfl (fun u v_4 H locs hv_4 pv_4 hP hD hS => ?_)
            have hP : va_P (gD g) vwCl [(aN, .inl (gI g, 1960, .inl (ar F)))] H := hP
            have hD : va_D A [(aN, .inl (gI g, 1960, .inl (ar F)))] := hD
            have hv_4 : v_4 = upward (tp zk) := hv_4
            have yv_4 : v_4 = upward (tp zk) := by
                first
                | (
                   exact hv_4)
                | fail "q9"
            refine x_top yv_4 ?_
            obtain ⟨v_5, ev_5⟩ : ∃ z : Int, z = upward (tp zk) := ⟨_, rfl⟩
            refine x_top ev_5.symm ?_
            refine lv_istore (lv' := [(5, .int (iI v_5)), (4, .int (iI zk)), (3, .int (iI zo)), (0, .ref aN), (1, .int (iI n_)), (2, .int (iI 0))]) hx hb dL_offset_40 hl (by decide) rfl (fun ls hl => ?_)
            refine lv_iload_n hx hb dL_offset_42 rfl (lv_at hl 2 rfl) ?_
            refine lv_iload_n hx hb dL_offset_43 rfl (lv_at hl 4 rfl) ?_
            refine lv_iload hx hb dL_offset_44 (lv_at hl 1 rfl) ?_
            refine x_isub hx hb dL_offset_46 ?_
            refine lv_aload_n hx hb dL_offset_47 rfl (lv_at hl 3 rfl) ?_
            refine x_sipush hx hb dL_offset_48 (by decide) ?_
            refine lv_iload hx hb dL_offset_51 (lv_at hl 1 rfl) ?_
            refine x_iadd hx hb dL_offset_53 ?_
            refine x_iald hx hb hK hP 0 0 rfl rfl (by omega) (by omega) (Nat.le_of_ble_eq_true rfl) dL_offset_54 (fun v_6 hv_6 => ?_)
            refine x_top (show v_6 = tt zk by
                first
                | (
                   rw [hv_6]; exact htt zk (by omega) (by omega))
                | fail "q9") ?_
            refine x_imul hx hb dL_offset_55 ?_
            refine lv_iload hx hb dL_offset_56 (lv_at hl 0 rfl) ?_
            refine x_imul hx hb dL_offset_58 ?_
            refine x_iadd hx hb dL_offset_59 ?_
            obtain ⟨v_7, ev_7⟩ : ∃ z : Int, z = zo + (((n_ - zk) * (tt zk)) * v_5) := ⟨_, rfl⟩
            refine x_top ev_7.symm ?_
            refine lv_istore_n (lv' := [(3, .int (iI v_7)), (5, .int (iI v_5)), (4, .int (iI zk)), (0, .ref aN), (1, .int (iI n_)), (2, .int (iI 0))]) hx hb dL_offset_60 rfl hl (by decide) rfl (fun ls hl => ?_)
            refine x_iinc (k := 2) (lv' := [(4, .int (iI (zk + 1))), (3, .int (iI v_7)), (5, .int (iI v_5)), (0, .ref aN), (1, .int (iI n_)), (2, .int (iI 0))]) hx hb dL_offset_61 hl rfl (by decide) rfl (fun ls hl => ?_)
            refine lv_goto (tgt := 5) hx hb dL_offset_64 (by decide) ?_
            exact ih5 v_7 (zk + 1) _ _ (by omega) (by omega) (show 0 ≤ (zk + 1) ∧ (zk + 1) ≤ n_ by
                first
                | (
                   first | assumption | omega | rfl)
                | fail "q9") (show v_7 = sumI (fun k => (n_ - k) * (tt k * upward (tp k))) (zk + 1) by
                first
                | (
                   rw [sumI_step _ (by omega), ← hzo]
                   show v_7 = zo + (n_ - zk) * (tt zk * upward (tp zk))
                   rw [← Int.mul_assoc]
                   have q5 : v_5 = upward (tp zk) := by assumption
                   rw [← q5]
                   assumption)
                | fail "q9") (by
                first
                | (
                   omega)
                | fail "q9") _ _ hP hD hS ls (lv_sub hl [0, 1, 3, 4, 5] rfl)
          · skip
            exact absurd c_2 (by decide)
    exact lp5 (n_ + 1 - 0 : Int).toNat 0 0 _ _ (by omega) (by omega) (show 0 ≤ 0 ∧ 0 ≤ n_ by
        first
        | (
           first | assumption | omega | rfl)
        | fail "q9") (show 0 = sumI (fun k => (n_ - k) * (tt k * upward (tp k))) 0 by
        first
        | (
           rfl)
        | fail "q9") (by omega) _ _ hP hD hS ls (lv_sub hl [0, 1, 2, 3, 4] rfl)
  rw [hH, hlo, hQ9] at goal_
  exact goal_

set_option maxHeartbeats 4000000 in
set_option maxRecDepth 100000 in
theorem c_L_takes (l : Launch) (g : xg) (sz : Nat) (aN : Nat) (F : Int → Int) (kn : Int) (ld : Int) (pr : Int) (nd : Int → Int) (wk : Int → Int) (hkn : 0 ≤ kn ∧ kn ≤ 200) (hlk : 0 ≤ ld ∧ ld < kn) (hpr : 0 ≤ pr ∧ pr ≤ 100) (hb_nd : bnd nd 0 100) (hb_wk : bnd wk 0 20) (hF2 : F 2 = ld) (hF5 : F 5 = pr) (hF20 : F (20 + ld) = nd ld) (hF220 : F (220 + ld) = wk ld) : Met l yL_takes wsL_takes { frames := 0, cells := 0, slots := 0, locals := 0 } (va_Pc [.ref aN] (xB g [(aN, .inl (gI g, 1960, .inl (ar F)))] sz)) (va_Qi (fun r u => r = iI ((fun (u : Unit) => takF nd wk pr ld) u) ∧ (fun (u : Unit) => 10 ≤ (takF nd wk pr ld) ∧ (takF nd wk pr ld) ≤ 200) u) (fun u t => xE g (va_A [(aN, .inl (gI g, 1960, .inl (ar F)))] sz) ((fun (u : Unit) => [(aN, .inl (gI g, 1960, .inl (ar F)))]) u) t) (va_A [(aN, .inl (gI g, 1960, .inl (ar F)))] sz)) 0 0 (va_A [(aN, .inl (gI g, 1960, .inl (ar F)))] sz) := by
  refine x_enter (y := yL_takes) (ws := wsL_takes) (g := g) (sz := sz) (av := [.ref aN]) (WS := [(aN, .inl (gI g, 1960, .inl (ar F)))]) (cc := cL_takes) (maxL := 2) (ret := some .int) (Qc := (fun A => (va_Qi (fun r u => r = iI ((fun (u : Unit) => takF nd wk pr ld) u) ∧ (fun (u : Unit) => 10 ≤ (takF nd wk pr ld) ∧ (takF nd wk pr ld) ≤ 200) u) (fun u t => xE g A ((fun (u : Unit) => [(aN, .inl (gI g, 1960, .inl (ar F)))]) u) t) A))) (by decide) rfl (Nat.le_of_ble_eq_true rfl) ?_
  intro p e s m args below meth c A ls hx hb hr hml hown hts hlocks hname hC hP hD hS hA hl
  have hK := hC.1
  have hown : s.vm.findClass RL = some m.cls := hown
  have hl : lv_has ls 2 [(0, .ref aN)] := hl
  obtain ⟨H, hH⟩ : ∃ z, z = s.heap := ⟨_, rfl⟩
  obtain ⟨locs, hlo⟩ : ∃ z : List Loc, z = [] := ⟨_, rfl⟩
  obtain ⟨Q9, hQ9⟩ : ∃ z, z = MQ below (va_Qi (fun r u => r = iI ((fun (u : Unit) => takF nd wk pr ld) u) ∧ (fun (u : Unit) => 10 ≤ (takF nd wk pr ld) ∧ (takF nd wk pr ld) ≤ 200) u) (fun u t => xE g A ((fun (u : Unit) => [(aN, .inl (gI g, 1960, .inl (ar F)))]) u) t) A) args s 0 0 A := ⟨_, rfl⟩
  have hP : va_P (gD g) vwCl [(aN, .inl (gI g, 1960, .inl (ar F)))] H := by rw [hH]; exact hP
  have hS : va_S A s.heap H locs := by rw [hH, hlo]; exact hS
  have goal_ : W p l e { frames := 0, cells := 0, slots := 0, locals := 0 } s m args below meth c H locs 0 0 Q9 (F0 m 0 ls []) := by
    clear hH hlo
    have q1 := hb_nd ld
    have q2 := hb_wk ld
    refine lv_aload_n hx hb dL_takes_0 rfl (lv_at hl 0 rfl) ?_
    refine x_iconst hx hb dL_takes_1 ?_
    refine x_iald hx hb hK hP 0 0 rfl rfl (by omega) (by omega) (Nat.le_of_ble_eq_true rfl) dL_takes_2 (fun v_1 hv_1 => ?_)
    refine x_top (show v_1 = pr by
        first
        | (
           omega)
        | fail "q9") ?_
    refine lv_aload_n hx hb dL_takes_3 rfl (lv_at hl 0 rfl) ?_
    refine x_bipush hx hb dL_takes_4 (by decide) ?_
    refine lv_aload_n hx hb dL_takes_6 rfl (lv_at hl 0 rfl) ?_
    refine x_iconst hx hb dL_takes_7 ?_
    refine x_iald hx hb hK hP 0 0 rfl rfl (by omega) (by omega) (Nat.le_of_ble_eq_true rfl) dL_takes_8 (fun v_2 hv_2 => ?_)
    refine x_top (show v_2 = ld by
        first
        | (
           omega)
        | fail "q9") ?_
    refine x_iadd hx hb dL_takes_9 ?_
    refine x_iald hx hb hK hP 0 0 rfl rfl (by omega) (by omega) (Nat.le_of_ble_eq_true rfl) dL_takes_10 (fun v_3 hv_3 => ?_)
    refine x_top (show v_3 = nd ld by
        first
        | (
           omega)
        | fail "q9") ?_
    refine x_isub hx hb dL_takes_11 ?_
    refine x_bipush hx hb dL_takes_12 (by decide) ?_
    refine x_isub hx hb dL_takes_14 ?_
    obtain ⟨v_4, ev_4⟩ : ∃ z : Int, z = (pr - (nd ld)) - 20 := ⟨_, rfl⟩
    refine x_top ev_4.symm ?_
    refine lv_istore_n (lv' := [(1, .int (iI v_4)), (0, .ref aN)]) hx hb dL_takes_15 rfl hl (by decide) rfl (fun ls hl => ?_)
    refine x_bipush hx hb dL_takes_16 (by decide) ?_
    refine lv_aload_n hx hb dL_takes_18 rfl (lv_at hl 1 rfl) ?_
    refine x_sipush hx hb dL_takes_19 (by decide) ?_
    refine lv_aload_n hx hb dL_takes_22 rfl (lv_at hl 1 rfl) ?_
    refine x_iconst hx hb dL_takes_23 ?_
    refine x_iald hx hb hK hP 0 0 rfl rfl (by omega) (by omega) (Nat.le_of_ble_eq_true rfl) dL_takes_24 (fun v_5 hv_5 => ?_)
    refine x_top (show v_5 = ld by
        first
        | (
           omega)
        | fail "q9") ?_
    refine x_iadd hx hb dL_takes_25 ?_
    refine x_iald hx hb hK hP 0 0 rfl rfl (by omega) (by omega) (Nat.le_of_ble_eq_true rfl) dL_takes_26 (fun v_6 hv_6 => ?_)
    refine x_top (show v_6 = wk ld by
        first
        | (
           omega)
        | fail "q9") ?_
    refine x_iadd hx hb dL_takes_27 ?_
    refine lv_iload_n hx hb dL_takes_28 rfl (lv_at hl 0 rfl) ?_
    refine x_if_le (tgt := 36) hx hb (by omega) dL_takes_29 (by decide) (fun c_7 => ?_) (fun c_7 => ?_)
    · skip
      refine x_iconst hx hb dL_takes_36 ?_
      refine x_iadd hx hb dL_takes_37 ?_
      rw [hQ9]
      exact x_iret hx hb hr hlocks hP hD hS (S := Unit) rfl dL_takes_38 () (by
          first
          | (
             unfold takF mx
             omega)
          | fail "q9") (by
          first
          | (
             unfold takF mx
             omega)
          | fail "q9") rfl (Nat.le_of_ble_eq_true rfl) (Nat.le_of_ble_eq_true rfl)
    · skip
      refine lv_iload_n hx hb dL_takes_32 rfl (lv_at hl 0 rfl) ?_
      refine lv_goto (tgt := 37) hx hb dL_takes_33 (by decide) ?_
      refine x_iadd hx hb dL_takes_37 ?_
      rw [hQ9]
      exact x_iret hx hb hr hlocks hP hD hS (S := Unit) rfl dL_takes_38 () (by
          first
          | (
             unfold takF mx
             omega)
          | fail "q9") (by
          first
          | (
             unfold takF mx
             omega)
          | fail "q9") rfl (Nat.le_of_ble_eq_true rfl) (Nat.le_of_ble_eq_true rfl)
  rw [hH, hlo, hQ9] at goal_
  exact goal_

set_option maxHeartbeats 4000000 in
set_option maxRecDepth 100000 in
theorem c_L_deviation (l : Launch) (g : xg) (sz : Nat) (aN : Nat) (ta po : Int) (F : Int → Int) (pn : Int) (ld : Int) (ehx : Int) (ehy : Int) (bx : Int → Int) (byy : Int → Int) (tp : Int → Int) (tt : Int → Int) (kx : Int → Int) (ky : Int → Int) (hpn : 0 ≤ pn ∧ pn ≤ 200) (hld : 0 ≤ ld ∧ ld < 200) (hF1 : F 1 = pn) (hF2 : F 2 = ld) (hplx : ∀ i : Int, 0 ≤ i → i < pn → F (420 + i) = bx i) (hply : ∀ i : Int, 0 ≤ i → i < pn → F (620 + i) = byy i) (htp : ∀ i : Int, 0 ≤ i → i < ld → F (1020 + i) = tp i) (htt : ∀ i : Int, 0 ≤ i → i < ld → F (1220 + i) = tt i) (hb_bx : bnd bx (-5) 5) (hb_byy : bnd byy (-5) 5) (hb_tp : bnd tp 0 7) (hb_tt : bnd tt 0 9) (hta : 0 ≤ ta ∧ ta ≤ 9) (hpo : 0 ≤ po ∧ po ≤ 7) (hkx : ∀ k : Int, 0 ≤ k → k < ld → kx k = lnO tt tp toSide (k + 1)) (hky : ∀ k : Int, 0 ≤ k → k < ld → ky k = lnO tt tp upward (k + 1)) (hhx : ehx = lnH tt tp toSide ld) (hhy : ehy = lnH tt tp upward ld) : Met l yL_deviation wsL_deviation { frames := 3, cells := 411, slots := 5240, locals := 66 } (va_Pc [.ref aN, .int (iI ta), .int (iI po)] (xB g [(aN, .inl (gI g, 1960, .inl (ar F)))] sz)) (va_Qi (fun r u => r = iI ((fun (u : Unit) => devF pn bx byy kx ky ld ehx ehy ta po) u) ∧ (fun (u : Unit) => 0 ≤ (devF pn bx byy kx ky ld ehx ehy ta po) ∧ (devF pn bx byy kx ky ld ehx ehy ta po) ≤ 3000000) u) (fun u t => xE g (va_A [(aN, .inl (gI g, 1960, .inl (ar F)))] sz) ((fun (u : Unit) => [(aN, .inl (gI g, 1960, .inl (ar F)))]) u) t) (va_A [(aN, .inl (gI g, 1960, .inl (ar F)))] sz)) 411 5240 (va_A [(aN, .inl (gI g, 1960, .inl (ar F)))] sz) := by
  refine x_enter (y := yL_deviation) (ws := wsL_deviation) (g := g) (sz := sz) (av := [.ref aN, .int (iI ta), .int (iI po)]) (WS := [(aN, .inl (gI g, 1960, .inl (ar F)))]) (cc := cL_deviation) (maxL := 5) (ret := some .int) (Qc := (fun A => (va_Qi (fun r u => r = iI ((fun (u : Unit) => devF pn bx byy kx ky ld ehx ehy ta po) u) ∧ (fun (u : Unit) => 0 ≤ (devF pn bx byy kx ky ld ehx ehy ta po) ∧ (devF pn bx byy kx ky ld ehx ehy ta po) ≤ 3000000) u) (fun u t => xE g A ((fun (u : Unit) => [(aN, .inl (gI g, 1960, .inl (ar F)))]) u) t) A))) (by decide) rfl (Nat.le_of_ble_eq_true rfl) ?_
  intro p e s m args below meth c A ls hx hb hr hml hown hts hlocks hname hC hP hD hS hA hl
  have hK := hC.1
  have hown : s.vm.findClass RL = some m.cls := hown
  have hl : lv_has ls 5 [(0, .ref aN), (1, .int (iI ta)), (2, .int (iI po))] := hl
  obtain ⟨H, hH⟩ : ∃ z, z = s.heap := ⟨_, rfl⟩
  obtain ⟨locs, hlo⟩ : ∃ z : List Loc, z = [] := ⟨_, rfl⟩
  obtain ⟨Q9, hQ9⟩ : ∃ z, z = MQ below (va_Qi (fun r u => r = iI ((fun (u : Unit) => devF pn bx byy kx ky ld ehx ehy ta po) u) ∧ (fun (u : Unit) => 0 ≤ (devF pn bx byy kx ky ld ehx ehy ta po) ∧ (devF pn bx byy kx ky ld ehx ehy ta po) ≤ 3000000) u) (fun u t => xE g A ((fun (u : Unit) => [(aN, .inl (gI g, 1960, .inl (ar F)))]) u) t) A) args s 411 5240 A := ⟨_, rfl⟩
  have hP : va_P (gD g) vwCl [(aN, .inl (gI g, 1960, .inl (ar F)))] H := by rw [hH]; exact hP
  have hS : va_S A s.heap H locs := by rw [hH, hlo]; exact hS
  have goal_ : W p l e { frames := 3, cells := 411, slots := 5240, locals := 66 } s m args below meth c H locs 0 0 Q9 (F0 m 0 ls []) := by
    clear hH hlo
    refine x_sipush hx hb dL_deviation_0 (by decide) ?_
    refine x_newI hx hb (hts (.arrayClass .int) (List.mem_of_getElem? (i := 1) rfl)) hC hP hD hS hA 1960 (by decide) (by decide) (by decide) (Nat.le_of_ble_eq_true rfl) (Nat.le_of_ble_eq_true rfl) dL_deviation_3 (fun q_1 H hP hD hS => ?_)
    have hP : va_P (gD g) vwCl [(aN, .inl (gI g, 1960, .inl (ar F))), (q_1, .inl (gI g, 1960, .inl (ar (fun _ => 0))))] H := hP
    have hD : va_D A [(aN, .inl (gI g, 1960, .inl (ar F))), (q_1, .inl (gI g, 1960, .inl (ar (fun _ => 0))))] := hD
    refine lv_astore_n (lv' := [(3, .ref q_1), (0, .ref aN), (1, .int (iI ta)), (2, .int (iI po))]) hx hb dL_deviation_5 rfl hl (by decide) rfl (fun ls hl => ?_)
    refine x_iconst hx hb dL_deviation_6 ?_
    refine lv_istore (lv' := [(4, .int (iI 0)), (3, .ref q_1), (0, .ref aN), (1, .int (iI ta)), (2, .int (iI po))]) hx hb dL_deviation_7 hl (by decide) rfl (fun ls hl => ?_)
    have lp9 : ∀ (n : Nat) (zk : Int) (zF : Int → Int), (0 ≤ zk ∧ zk ≤ 1960) → (zF = cpF F zk) → 1961 - zk ≤ (n : Int) → ∀ (H : Heap) (locs : List Loc), va_P (gD g) vwCl [(aN, .inl (gI g, 1960, .inl (ar F))), (q_1, .inl (gI g, 1960, .inl (ar zF)))] H → va_D A [(aN, .inl (gI g, 1960, .inl (ar F))), (q_1, .inl (gI g, 1960, .inl (ar zF)))] → va_S A s.heap H locs → ∀ (ls : Array Slot), lv_has ls 5 [(4, .int (iI zk)), (3, .ref q_1), (0, .ref aN), (1, .int (iI ta)), (2, .int (iI po))] → W p l e { frames := 3, cells := 411, slots := 5240, locals := 66 } s m args below meth c H locs (1) (1960) Q9 (F0 m 9 ls []) := by
      intro n
      induction n with
      | zero => intro zk zF hzk hzF hm; exfalso; omega
      | succ n ih9 =>
        intro zk zF hzk hzF hm H locs hP hD hS ls hl
        refine lv_iload hx hb dL_deviation_9 (lv_at hl 0 rfl) ?_
        refine lv_aload_n hx hb dL_deviation_11 rfl (lv_at hl 2 rfl) ?_
        refine va_alen (v := iI 1960) hx hb hK hP 0 0 rfl rfl (show Int32.ofNat 1960 = iI 1960 by decide) dL_deviation_12 ?_
        refine x_cmp_ge (tgt := 30) hx hb (by omega) (by omega) dL_deviation_13 (by decide) (fun c_2 => ?_) (fun c_2 => ?_)
        · skip
          refine lv_aload_n hx hb dL_deviation_30 rfl (lv_at hl 2 rfl) ?_
          refine x_iconst hx hb dL_deviation_31 ?_
          refine x_iald hx hb hK hP 0 0 rfl rfl (by omega) (by omega) (Nat.le_of_ble_eq_true rfl) dL_deviation_32 (fun v_3 hv_3 => ?_)
          refine x_top (show v_3 = ld by
              first
              | (
                 omega)
              | fail "q9") ?_
          refine lv_istore (lv' := [(4, .int (iI ld)), (3, .ref q_1), (0, .ref aN), (1, .int (iI ta)), (2, .int (iI po))]) hx hb dL_deviation_33 hl (by decide) rfl (fun ls hl => ?_)
          have hbt : bnd (up tt ld ta) 0 9 := bnd_up hb_tt (by omega) (by omega)
          refine lv_aload_n hx hb dL_deviation_35 rfl (lv_at hl 1 rfl) ?_
          refine x_sipush hx hb dL_deviation_36 (by decide) ?_
          refine lv_iload hx hb dL_deviation_39 (lv_at hl 0 rfl) ?_
          refine x_iadd hx hb dL_deviation_41 ?_
          refine lv_iload_n hx hb dL_deviation_42 rfl (lv_at hl 4 rfl) ?_
          refine x_iast hx hb hK hP hD hS 1 0 rfl rfl (by omega) (by omega) (Nat.le_of_ble_eq_true rfl) dL_deviation_43 (fun H locs hP hD hS => ?_)
          have hP : va_P (gD g) vwCl [(aN, .inl (gI g, 1960, .inl (ar F))), (q_1, .inl (gI g, 1960, .inl (ar (up zF (1020 + ld) po))))] H := hP
          have hD : va_D A [(aN, .inl (gI g, 1960, .inl (ar F))), (q_1, .inl (gI g, 1960, .inl (ar (up zF (1020 + ld) po))))] := hD
          refine lv_aload_n hx hb dL_deviation_44 rfl (lv_at hl 1 rfl) ?_
          refine x_sipush hx hb dL_deviation_45 (by decide) ?_
          refine lv_iload hx hb dL_deviation_48 (lv_at hl 0 rfl) ?_
          refine x_iadd hx hb dL_deviation_50 ?_
          refine lv_iload_n hx hb dL_deviation_51 rfl (lv_at hl 3 rfl) ?_
          refine x_iast hx hb hK hP hD hS 1 0 rfl rfl (by omega) (by omega) (Nat.le_of_ble_eq_true rfl) dL_deviation_52 (fun H locs hP hD hS => ?_)
          have hP : va_P (gD g) vwCl [(aN, .inl (gI g, 1960, .inl (ar F))), (q_1, .inl (gI g, 1960, .inl (ar (up (up zF (1020 + ld) po) (1220 + ld) ta))))] H := hP
          have hD : va_D A [(aN, .inl (gI g, 1960, .inl (ar F))), (q_1, .inl (gI g, 1960, .inl (ar (up (up zF (1020 + ld) po) (1220 + ld) ta))))] := hD
          refine lv_aload_n hx hb dL_deviation_53 rfl (lv_at hl 2 rfl) ?_
          refine lv_iload hx hb dL_deviation_54 (lv_at hl 0 rfl) ?_
          refine lv_aload_n hx hb dL_deviation_56 rfl (lv_at hl 1 rfl) ?_
          refine lv_iload hx hb dL_deviation_57 (lv_at hl 0 rfl) ?_
          refine x_iconst hx hb dL_deviation_59 ?_
          refine x_iadd hx hb dL_deviation_60 ?_
          refine x_iconst hx hb dL_deviation_61 ?_
          refine x_calli (S := Unit) (wc := [(q_1, .inl (gI g, 1960, .inl (ar (up (up zF (1020 + ld) po) (1220 + ld) ta))))]) (wr := [(aN, .inl (gI g, 1960, .inl (ar F)))]) hC hP hD hS hA [1] [0] [0, 1] rfl rfl (fun hpre => va_runS (As := [.ref q_1, .int (iI (ld + 1)), .int (iI 1)]) (rest := [.int (iI ld), .ref aN]) ⟨hx, hb, hml, hown, hts⟩ (c_L_offset1 l g H.size q_1 (ld + 1) (up (up zF (1020 + ld) po) (1220 + ld) ta) (up tp ld po) (up tt ld ta) (by first | (first | assumption | omega | exact bnd_up (by assumption) (by omega) (by omega)) | fail "q8") (by
                first
                | (
                   intro i h1 h2
                   rw [hzF]
                   have q := htp i h1
                   simp only [up, cpF]
                   omega)
                | fail "q8") (by
                first
                | (
                   intro i h1 h2
                   rw [hzF]
                   have q := htt i h1
                   simp only [up, cpF]
                   omega)
                | fail "q8") (by first | (first | assumption | omega | exact bnd_up (by assumption) (by omega) (by omega)) | fail "q8")) (va_cwS 3 hts gL_deviation_L_offset rfl rfl rfl (by decide +kernel) ⟨Nat.le_of_ble_eq_true rfl, Nat.le_of_ble_eq_true rfl⟩) ⟨xB_blind, hpre _⟩ rfl rfl hl.1 rfl (lv_room (Nat.le_of_ble_eq_true rfl)) dL_deviation_62 ⟨Nat.le_of_ble_eq_true rfl, Nat.le_of_ble_eq_true rfl⟩) (fun (u : Unit) => [(aN, .inl (gI g, 1960, .inl (ar F))), (q_1, .inl (gI g, 1960, .inl (ar (up (up zF (1020 + ld) po) (1220 + ld) ta))))]) rfl rfl (by decide) (fun _ => rfl) rfl (fun u v_4 H locs hv_4 pv_4 hP hD hS => ?_)
          have hP : va_P (gD g) vwCl [(aN, .inl (gI g, 1960, .inl (ar F))), (q_1, .inl (gI g, 1960, .inl (ar (up (up zF (1020 + ld) po) (1220 + ld) ta))))] H := hP
          have hD : va_D A [(aN, .inl (gI g, 1960, .inl (ar F))), (q_1, .inl (gI g, 1960, .inl (ar (up (up zF (1020 + ld) po) (1220 + ld) ta))))] := hD
          have hv_4 : v_4 = lnO (up tt ld ta) (up tp ld po) toSide (ld + 1) := hv_4
          have x8 := lnO_b (tp := up tp ld po) hbt toSide_r (n := ld + 1) (by omega) (by omega)
          have x9 : v_4 = lnO tt tp toSide ld + lnH tt tp toSide ld + ta * toSide po := by rw [hv_4, lnO_new hld.1]; omega
          refine lv_aload_n hx hb dL_deviation_65 rfl (lv_at hl 1 rfl) ?_
          refine lv_iload hx hb dL_deviation_66 (lv_at hl 0 rfl) ?_
          refine x_iconst hx hb dL_deviation_68 ?_
          refine x_iadd hx hb dL_deviation_69 ?_
          refine x_iconst hx hb dL_deviation_70 ?_
          refine x_calli (S := Unit) (wc := [(q_1, .inl (gI g, 1960, .inl (ar (up (up zF (1020 + ld) po) (1220 + ld) ta))))]) (wr := [(aN, .inl (gI g, 1960, .inl (ar F)))]) hC hP hD hS hA [1] [0] [0, 1] rfl rfl (fun hpre => va_runS (As := [.ref q_1, .int (iI (ld + 1)), .int (iI 0)]) (rest := [.int (iI v_4), .int (iI ld), .ref aN]) ⟨hx, hb, hml, hown, hts⟩ (c_L_offset0 l g H.size q_1 (ld + 1) (up (up zF (1020 + ld) po) (1220 + ld) ta) (up tp ld po) (up tt ld ta) (by first | (first | assumption | omega | exact bnd_up (by assumption) (by omega) (by omega)) | fail "q8") (by
                first
                | (
                   intro i h1 h2
                   rw [hzF]
                   have q := htp i h1
                   simp only [up, cpF]
                   omega)
                | fail "q8") (by
                first
                | (
                   intro i h1 h2
                   rw [hzF]
                   have q := htt i h1
                   simp only [up, cpF]
                   omega)
                | fail "q8") (by first | (first | assumption | omega | exact bnd_up (by assumption) (by omega) (by omega)) | fail "q8")) (va_cwS 3 hts gL_deviation_L_offset rfl rfl rfl (by decide +kernel) ⟨Nat.le_of_ble_eq_true rfl, Nat.le_of_ble_eq_true rfl⟩) ⟨xB_blind, hpre _⟩ rfl rfl hl.1 rfl (lv_room (Nat.le_of_ble_eq_true rfl)) dL_deviation_71 ⟨Nat.le_of_ble_eq_true rfl, Nat.le_of_ble_eq_true rfl⟩) (fun (u : Unit) => [(aN, .inl (gI g, 1960, .inl (ar F))), (q_1, .inl (gI g, 1960, .inl (ar (up (up zF (1020 + ld) po) (1220 + ld) ta))))]) rfl rfl (by decide) (fun _ => rfl) rfl (fun u v_5 H locs hv_5 pv_5 hP hD hS => ?_)
          have hP : va_P (gD g) vwCl [(aN, .inl (gI g, 1960, .inl (ar F))), (q_1, .inl (gI g, 1960, .inl (ar (up (up zF (1020 + ld) po) (1220 + ld) ta))))] H := hP
          have hD : va_D A [(aN, .inl (gI g, 1960, .inl (ar F))), (q_1, .inl (gI g, 1960, .inl (ar (up (up zF (1020 + ld) po) (1220 + ld) ta))))] := hD
          have hv_5 : v_5 = lnO (up tt ld ta) (up tp ld po) upward (ld + 1) := hv_5
          have y8 := lnO_b (tp := up tp ld po) hbt upward_r (n := ld + 1) (by omega) (by omega)
          have y9 : v_5 = lnO tt tp upward ld + lnH tt tp upward ld + ta * upward po := by rw [hv_5, lnO_new hld.1]; omega
          refine x_calli (S := Unit) (wc := [(aN, .inl (gI g, 1960, .inl (ar F)))]) (wr := [(q_1, .inl (gI g, 1960, .inl (ar (up (up zF (1020 + ld) po) (1220 + ld) ta))))]) hC hP hD hS hA [0] [1] [1, 0] rfl rfl (fun hpre => va_runS (As := [.ref aN, .int (iI ld), .int (iI v_4), .int (iI v_5)]) (rest := []) ⟨hx, hb, hml, hown, hts⟩ (c_L_apart l g H.size aN ld v_4 v_5 F pn bx byy (by first | (first | assumption | omega | exact bnd_up (by assumption) (by omega) (by omega)) | fail "q8") (by first | (first | assumption | omega | exact bnd_up (by assumption) (by omega) (by omega)) | fail "q8") (by first | (first | assumption | omega | exact bnd_up (by assumption) (by omega) (by omega)) | fail "q8") (by first | (first | assumption | omega | exact bnd_up (by assumption) (by omega) (by omega)) | fail "q8") (by first | (first | assumption | omega | exact bnd_up (by assumption) (by omega) (by omega)) | fail "q8") (by first | (first | assumption | omega | exact bnd_up (by assumption) (by omega) (by omega)) | fail "q8") (by first | (first | assumption | omega | exact bnd_up (by assumption) (by omega) (by omega)) | fail "q8") (by first | (first | assumption | omega | exact bnd_up (by assumption) (by omega) (by omega)) | fail "q8") (by first | (first | assumption | omega | exact bnd_up (by assumption) (by omega) (by omega)) | fail "q8")) (va_cwS 4 hts gL_deviation_L_apart rfl rfl rfl (by decide +kernel) ⟨Nat.le_of_ble_eq_true rfl, Nat.le_of_ble_eq_true rfl⟩) ⟨xB_blind, hpre _⟩ rfl rfl hl.1 rfl (lv_room (Nat.le_of_ble_eq_true rfl)) dL_deviation_74 ⟨Nat.le_of_ble_eq_true rfl, Nat.le_of_ble_eq_true rfl⟩) (fun (u : Unit) => [(aN, .inl (gI g, 1960, .inl (ar F))), (q_1, .inl (gI g, 1960, .inl (ar (up (up zF (1020 + ld) po) (1220 + ld) ta))))]) rfl rfl (by decide) (fun _ => rfl) rfl (fun u v_6 H locs hv_6 pv_6 hP hD hS => ?_)
          have hP : va_P (gD g) vwCl [(aN, .inl (gI g, 1960, .inl (ar F))), (q_1, .inl (gI g, 1960, .inl (ar (up (up zF (1020 + ld) po) (1220 + ld) ta))))] H := hP
          have hD : va_D A [(aN, .inl (gI g, 1960, .inl (ar F))), (q_1, .inl (gI g, 1960, .inl (ar (up (up zF (1020 + ld) po) (1220 + ld) ta))))] := hD
          have hv_6 : v_6 = aI (v_4 - plO pn bx (ld + 1)) + aI (v_5 - plO pn byy (ld + 1)) := hv_6
          have pv_6 : 0 ≤ v_6 ∧ v_6 ≤ 3000000 := by first | exact pv_6 | (rw [hv_6]; exact pv_6)
          have hdp := pv_6
          have hdv : v_6 = devF pn bx byy kx ky ld ehx ehy ta po := by unfold devF; rw [lastF_line hld.1 hkx, lastF_line hld.1 hky, hhx, hhy, ← x9, ← y9]; exact hv_6
          have hP : va_P (gD g) vwCl [(aN, .inl (gI g, 1960, .inl (ar F)))] H := hP.sub [0] rfl
          have hD : va_D A [(aN, .inl (gI g, 1960, .inl (ar F)))] := hD.sub [0] (by decide) rfl
          rw [hQ9]
          exact x_iret hx hb hr hlocks hP hD hS (S := Unit) rfl dL_deviation_77 () (by
              first
              | (
                 exact hdv)
              | fail "q9") (by
              first
              | (
                 rw [← hdv]
                 exact hdp)
              | fail "q9") rfl (Nat.le_of_ble_eq_true rfl) (Nat.le_of_ble_eq_true rfl)
        · skip
          refine lv_aload_n hx hb dL_deviation_16 rfl (lv_at hl 1 rfl) ?_
          refine lv_iload hx hb dL_deviation_17 (lv_at hl 0 rfl) ?_
          refine lv_aload_n hx hb dL_deviation_19 rfl (lv_at hl 2 rfl) ?_
          refine lv_iload hx hb dL_deviation_20 (lv_at hl 0 rfl) ?_
          refine x_iald hx hb hK hP 0 0 rfl rfl (by omega) (by omega) (Nat.le_of_ble_eq_true rfl) dL_deviation_22 (fun v_7 hv_7 => ?_)
          refine x_iast hx hb hK hP hD hS 1 0 rfl rfl (by omega) (by omega) (Nat.le_of_ble_eq_true rfl) dL_deviation_23 (fun H locs hP hD hS => ?_)
          have hP : va_P (gD g) vwCl [(aN, .inl (gI g, 1960, .inl (ar F))), (q_1, .inl (gI g, 1960, .inl (ar (up zF zk v_7))))] H := hP
          have hD : va_D A [(aN, .inl (gI g, 1960, .inl (ar F))), (q_1, .inl (gI g, 1960, .inl (ar (up zF zk v_7))))] := hD
          refine x_iinc (k := 0) (lv' := [(4, .int (iI (zk + 1))), (3, .ref q_1), (0, .ref aN), (1, .int (iI ta)), (2, .int (iI po))]) hx hb dL_deviation_24 hl rfl (by decide) rfl (fun ls hl => ?_)
          refine lv_goto (tgt := 9) hx hb dL_deviation_27 (by decide) ?_
          exact ih9 (zk + 1) (up zF zk v_7) (show 0 ≤ (zk + 1) ∧ (zk + 1) ≤ 1960 by
              first
              | (
                 first | assumption | omega | rfl)
              | fail "q9") (show (up zF zk v_7) = cpF F (zk + 1) by
              first
              | (
                 rw [hzF]
                 exact cpF_step (by omega) (by assumption))
              | fail "q9") (by
              first
              | (
                 omega)
              | fail "q9") _ _ hP hD hS ls (lv_sub hl [0, 1, 2, 3, 4] rfl)
    exact lp9 (1961 - 0 : Int).toNat 0 (fun _ => 0) (show 0 ≤ 0 ∧ 0 ≤ 1960 by
        first
        | (
           first | assumption | omega | rfl)
        | fail "q9") (show (fun _ => 0) = cpF F 0 by
        first
        | (
           funext j
           unfold cpF
           rw [if_neg (by omega)])
        | fail "q9") (by omega) _ _ hP hD hS ls (lv_sub hl [0, 1, 2, 3, 4] rfl)
  rw [hH, hlo, hQ9] at goal_
  exact goal_

set_option maxHeartbeats 4000000 in
set_option maxRecDepth 100000 in
theorem c_L_reason (l : Launch) (g : xg) (sz : Nat) (aN : Nat) (sta po : Int) (F : Int → Int) (kn : Int) (pn : Int) (ld : Int) (bu : Int) (hou : Int) (pr : Int) (tk : Int) (tol : Int) (ehx : Int) (ehy : Int) (nd : Int → Int) (wk : Int → Int) (bx : Int → Int) (byy : Int → Int) (ht : Int → Int) (yt : Int → Int) (yc : Int → Int) (tp : Int → Int) (tt : Int → Int) (kx : Int → Int) (ky : Int → Int) (hkn : 0 ≤ kn ∧ kn ≤ 200) (hpn : 0 ≤ pn ∧ pn ≤ 200) (hld : 0 ≤ ld ∧ ld ≤ 200) (hldk : ld ≤ kn) (hhou : 0 ≤ hou ∧ hou ≤ 5000) (hpr : 0 ≤ pr ∧ pr ≤ 100) (htk : 0 ≤ tk ∧ tk ≤ 1000) (htol : 0 ≤ tol ∧ tol ≤ 9999) (hb_nd : bnd nd 0 100) (hb_wk : bnd wk 0 20) (hb_bx : bnd bx (-5) 5) (hb_byy : bnd byy (-5) 5) (hb_tp : bnd tp 0 7) (hb_tt : bnd tt 0 9) (hb_yt : bnd yt 0 9) (hb_yc : bnd yc 0 5000) (hb_ht : bnd ht 0 12) (hsta : 0 ≤ sta ∧ sta ≤ 2) (hpo : 0 ≤ po ∧ po ≤ 7) (hkx : ∀ k : Int, 0 ≤ k → k < ld → kx k = lnO tt tp toSide (k + 1)) (hky : ∀ k : Int, 0 ≤ k → k < ld → ky k = lnO tt tp upward (k + 1)) (hhx : ehx = lnH tt tp toSide ld) (hhy : ehy = lnH tt tp upward ld) (hN : NI F kn pn ld bu hou pr tk tol nd wk bx byy ht yt yc tp tt kx ky) : Met l yL_reason wsL_reason { frames := 4, cells := 411, slots := 5240, locals := 90 } (va_Pc [.ref aN, .int (iI sta), .int (iI po)] (xB g [(aN, .inl (gI g, 1960, .inl (ar F)))] sz)) (va_Qi (fun r u => r = iI ((fun (u : Unit) => reaF kn ld (ht sta) (mx 0 (yc (sta * 12 + (ht sta - 1)) + 24 - hou)) (lastP ld tp) po tk (takF nd wk pr ld) (devF pn bx byy kx ky ld ehx ehy (yt (sta * 12 + (ht sta - 1))) po) tol) u) ∧ (fun (u : Unit) => 0 ≤ (reaF kn ld (ht sta) (mx 0 (yc (sta * 12 + (ht sta - 1)) + 24 - hou)) (lastP ld tp) po tk (takF nd wk pr ld) (devF pn bx byy kx ky ld ehx ehy (yt (sta * 12 + (ht sta - 1))) po) tol) ∧ (reaF kn ld (ht sta) (mx 0 (yc (sta * 12 + (ht sta - 1)) + 24 - hou)) (lastP ld tp) po tk (takF nd wk pr ld) (devF pn bx byy kx ky ld ehx ehy (yt (sta * 12 + (ht sta - 1))) po) tol) ≤ 200) u) (fun u t => xE g (va_A [(aN, .inl (gI g, 1960, .inl (ar F)))] sz) ((fun (u : Unit) => [(aN, .inl (gI g, 1960, .inl (ar F)))]) u) t) (va_A [(aN, .inl (gI g, 1960, .inl (ar F)))] sz)) 411 5240 (va_A [(aN, .inl (gI g, 1960, .inl (ar F)))] sz) := by
  refine x_enter (y := yL_reason) (ws := wsL_reason) (g := g) (sz := sz) (av := [.ref aN, .int (iI sta), .int (iI po)]) (WS := [(aN, .inl (gI g, 1960, .inl (ar F)))]) (cc := cL_reason) (maxL := 3) (ret := some .char) (Qc := (fun A => (va_Qi (fun r u => r = iI ((fun (u : Unit) => reaF kn ld (ht sta) (mx 0 (yc (sta * 12 + (ht sta - 1)) + 24 - hou)) (lastP ld tp) po tk (takF nd wk pr ld) (devF pn bx byy kx ky ld ehx ehy (yt (sta * 12 + (ht sta - 1))) po) tol) u) ∧ (fun (u : Unit) => 0 ≤ (reaF kn ld (ht sta) (mx 0 (yc (sta * 12 + (ht sta - 1)) + 24 - hou)) (lastP ld tp) po tk (takF nd wk pr ld) (devF pn bx byy kx ky ld ehx ehy (yt (sta * 12 + (ht sta - 1))) po) tol) ∧ (reaF kn ld (ht sta) (mx 0 (yc (sta * 12 + (ht sta - 1)) + 24 - hou)) (lastP ld tp) po tk (takF nd wk pr ld) (devF pn bx byy kx ky ld ehx ehy (yt (sta * 12 + (ht sta - 1))) po) tol) ≤ 200) u) (fun u t => xE g A ((fun (u : Unit) => [(aN, .inl (gI g, 1960, .inl (ar F)))]) u) t) A))) (by decide) rfl (Nat.le_of_ble_eq_true rfl) ?_
  intro p e s m args below meth c A ls hx hb hr hml hown hts hlocks hname hC hP hD hS hA hl
  have hK := hC.1
  have hown : s.vm.findClass RL = some m.cls := hown
  have hl : lv_has ls 3 [(0, .ref aN), (1, .int (iI sta)), (2, .int (iI po))] := hl
  obtain ⟨H, hH⟩ : ∃ z, z = s.heap := ⟨_, rfl⟩
  obtain ⟨locs, hlo⟩ : ∃ z : List Loc, z = [] := ⟨_, rfl⟩
  obtain ⟨Q9, hQ9⟩ : ∃ z, z = MQ below (va_Qi (fun r u => r = iI ((fun (u : Unit) => reaF kn ld (ht sta) (mx 0 (yc (sta * 12 + (ht sta - 1)) + 24 - hou)) (lastP ld tp) po tk (takF nd wk pr ld) (devF pn bx byy kx ky ld ehx ehy (yt (sta * 12 + (ht sta - 1))) po) tol) u) ∧ (fun (u : Unit) => 0 ≤ (reaF kn ld (ht sta) (mx 0 (yc (sta * 12 + (ht sta - 1)) + 24 - hou)) (lastP ld tp) po tk (takF nd wk pr ld) (devF pn bx byy kx ky ld ehx ehy (yt (sta * 12 + (ht sta - 1))) po) tol) ∧ (reaF kn ld (ht sta) (mx 0 (yc (sta * 12 + (ht sta - 1)) + 24 - hou)) (lastP ld tp) po tk (takF nd wk pr ld) (devF pn bx byy kx ky ld ehx ehy (yt (sta * 12 + (ht sta - 1))) po) tol) ≤ 200) u) (fun u t => xE g A ((fun (u : Unit) => [(aN, .inl (gI g, 1960, .inl (ar F)))]) u) t) A) args s 411 5240 A := ⟨_, rfl⟩
  have hP : va_P (gD g) vwCl [(aN, .inl (gI g, 1960, .inl (ar F)))] H := by rw [hH]; exact hP
  have hS : va_S A s.heap H locs := by rw [hH, hlo]; exact hS
  have goal_ : W p l e { frames := 4, cells := 411, slots := 5240, locals := 90 } s m args below meth c H locs 0 0 Q9 (F0 m 0 ls []) := by
    clear hH hlo
    obtain ⟨⟨n0, n1, n2, n3, n4, n5, n6, n7⟩, n10, n20, n220, n420, n620, n1020, n1220, n1420, n1620, nst⟩ := hN
    have hbh := hb_ht sta
    have hF10 := n10 sta (by omega) (by omega)
    have hcb := hb_yc (sta * 12 + (ht sta - 1))
    have hcm := mx_r 0 (yc (sta * 12 + (ht sta - 1)) + 24 - hou) rfl
    refine lv_aload_n hx hb dL_reason_0 rfl (lv_at hl 0 rfl) ?_
    refine x_iconst hx hb dL_reason_1 ?_
    refine x_iald hx hb hK hP 0 0 rfl rfl (by omega) (by omega) (Nat.le_of_ble_eq_true rfl) dL_reason_2 (fun v_1 hv_1 => ?_)
    refine x_top (show v_1 = ld by
        first
        | (
           omega)
        | fail "q9") ?_
    refine lv_aload_n hx hb dL_reason_3 rfl (lv_at hl 0 rfl) ?_
    refine x_iconst hx hb dL_reason_4 ?_
    refine x_iald hx hb hK hP 0 0 rfl rfl (by omega) (by omega) (Nat.le_of_ble_eq_true rfl) dL_reason_5 (fun v_2 hv_2 => ?_)
    refine x_top (show v_2 = kn by
        first
        | (
           omega)
        | fail "q9") ?_
    refine x_cmp_ne (tgt := 12) hx hb (by omega) (by omega) dL_reason_6 (by decide) (fun c_3 => ?_) (fun c_3 => ?_)
    · skip
      refine lv_aload_n hx hb dL_reason_12 rfl (lv_at hl 0 rfl) ?_
      refine x_bipush hx hb dL_reason_13 (by decide) ?_
      refine lv_iload_n hx hb dL_reason_15 rfl (lv_at hl 1 rfl) ?_
      refine x_iadd hx hb dL_reason_16 ?_
      refine x_iald hx hb hK hP 0 0 rfl rfl (by omega) (by omega) (Nat.le_of_ble_eq_true rfl) dL_reason_17 (fun v_4 hv_4 => ?_)
      refine x_top (show v_4 = ht sta by
          first
          | (
             omega)
          | fail "q9") ?_
      refine x_if_ne (tgt := 24) hx hb (by omega) dL_reason_18 (by decide) (fun c_5 => ?_) (fun c_5 => ?_)
      · skip
        refine lv_aload_n hx hb dL_reason_24 rfl (lv_at hl 0 rfl) ?_
        refine x_iconst hx hb dL_reason_25 ?_
        refine x_iald hx hb hK hP 0 0 rfl rfl (by omega) (by omega) (Nat.le_of_ble_eq_true rfl) dL_reason_26 (fun v_6 hv_6 => ?_)
        refine x_top (show v_6 = hou by
            first
            | (
               omega)
            | fail "q9") ?_
        refine lv_aload_n hx hb dL_reason_27 rfl (lv_at hl 0 rfl) ?_
        refine lv_aload_n hx hb dL_reason_28 rfl (lv_at hl 0 rfl) ?_
        refine lv_iload_n hx hb dL_reason_29 rfl (lv_at hl 1 rfl) ?_
        refine x_calli (S := Unit) (wc := [(aN, .inl (gI g, 1960, .inl (ar F)))]) (wr := []) hC hP hD hS hA [0] [] [0] rfl rfl (fun hpre => va_runS (As := [.ref aN, .int (iI sta)]) (rest := [.ref aN, .int (iI hou)]) ⟨hx, hb, hml, hown, hts⟩ (c_L_topOf l g H.size aN sta F (by first | (first | assumption | omega | exact bnd_up (by assumption) (by omega) (by omega)) | fail "q8")) (va_cwS 2 hts gL_reason_L_topOf rfl rfl rfl (by decide +kernel) ⟨Nat.le_of_ble_eq_true rfl, Nat.le_of_ble_eq_true rfl⟩) ⟨xB_blind, hpre _⟩ rfl rfl hl.1 rfl (lv_room (Nat.le_of_ble_eq_true rfl)) dL_reason_30 ⟨Nat.le_of_ble_eq_true rfl, Nat.le_of_ble_eq_true rfl⟩) (fun (u : Unit) => [(aN, .inl (gI g, 1960, .inl (ar F)))]) rfl rfl (by decide) (fun _ => rfl) rfl (fun u v_7 H locs hv_7 pv_7 hP hD hS => ?_)
        have hP : va_P (gD g) vwCl [(aN, .inl (gI g, 1960, .inl (ar F)))] H := hP
        have hD : va_D A [(aN, .inl (gI g, 1960, .inl (ar F)))] := hD
        have hv_7 : v_7 = 1818 + 24 * sta + 2 * F (10 + sta) := hv_7
        have yv_7 : v_7 = 1818 + 24 * sta + 2 * ht sta := by
            first
            | (
               rw [hv_7]
               (repeat (first | rw [up_at _ _ (by omega)] | rw [up_ne _ _ (by omega)]))
               omega)
            | fail "q9"
        refine x_top yv_7 ?_
        refine x_iconst hx hb dL_reason_33 ?_
        refine x_iadd hx hb dL_reason_34 ?_
        refine x_iald hx hb hK hP 0 0 rfl rfl (by omega) (by omega) (Nat.le_of_ble_eq_true rfl) dL_reason_35 (fun v_8 hv_8 => ?_)
        refine x_top (show v_8 = yc (sta * 12 + (ht sta - 1)) by
            first
            | (
               rw [hv_8, ← (nst sta (ht sta - 1) (by omega) (by omega) (by omega) (by omega)).2]
               congr 1
               omega)
            | fail "q9") ?_
        refine x_isub hx hb dL_reason_36 ?_
        refine x_bipush hx hb dL_reason_37 (by decide) ?_
        refine x_cmp_ge (tgt := 45) hx hb (by omega) (by omega) dL_reason_39 (by decide) (fun c_9 => ?_) (fun c_9 => ?_)
        · skip
          refine lv_aload_n hx hb dL_reason_45 rfl (lv_at hl 0 rfl) ?_
          refine lv_aload_n hx hb dL_reason_46 rfl (lv_at hl 0 rfl) ?_
          refine x_iconst hx hb dL_reason_47 ?_
          refine x_iald hx hb hK hP 0 0 rfl rfl (by omega) (by omega) (Nat.le_of_ble_eq_true rfl) dL_reason_48 (fun v_10 hv_10 => ?_)
          refine x_top (show v_10 = ld by
              first
              | (
                 omega)
              | fail "q9") ?_
          refine lv_iload_n hx hb dL_reason_49 rfl (lv_at hl 2 rfl) ?_
          refine x_calli (S := Unit) (wc := [(aN, .inl (gI g, 1960, .inl (ar F)))]) (wr := []) hC hP hD hS hA [0] [] [0] rfl rfl (fun hpre => va_runS (As := [.ref aN, .int (iI ld), .int (iI po)]) (rest := []) ⟨hx, hb, hml, hown, hts⟩ (c_L_fits l g H.size aN ld po F (lastP ld tp) (by first | (first | assumption | omega | exact bnd_up (by assumption) (by omega) (by omega)) | fail "q8") (by first | (first | assumption | omega | exact bnd_up (by assumption) (by omega) (by omega)) | fail "q8") (by
                first
                | (
                   unfold lastP
                   refine ⟨fun h => by rw [if_pos h], fun h => ?_⟩
                   rw [if_neg h]
                   have q := n1020 (ld - 1) (by omega) (by omega)
                   rw [show 1020 + (ld - 1) = 1019 + ld by omega] at q
                   exact ⟨q.symm, hb_tp _⟩)
                | fail "q8")) (va_cwS 3 hts gL_reason_L_fits rfl rfl rfl (by decide +kernel) ⟨Nat.le_of_ble_eq_true rfl, Nat.le_of_ble_eq_true rfl⟩) ⟨xB_blind, hpre _⟩ rfl rfl hl.1 rfl (lv_room (Nat.le_of_ble_eq_true rfl)) dL_reason_50 ⟨Nat.le_of_ble_eq_true rfl, Nat.le_of_ble_eq_true rfl⟩) (fun (u : Unit) => [(aN, .inl (gI g, 1960, .inl (ar F)))]) rfl rfl (by decide) (fun _ => rfl) rfl (fun u v_11 H locs hv_11 pv_11 hP hD hS => ?_)
          have hP : va_P (gD g) vwCl [(aN, .inl (gI g, 1960, .inl (ar F)))] H := hP
          have hD : va_D A [(aN, .inl (gI g, 1960, .inl (ar F)))] := hD
          have hv_11 : v_11 = bI (fitP (lastP ld tp) po) := hv_11
          refine x_top hv_11 ?_
          refine x_ifb_ne (tgt := 59) (P := fitP (lastP ld tp) po) hx hb dL_reason_53 (by decide) (fun c_12 => ?_) (fun c_12 => ?_)
          · skip
            refine lv_aload_n hx hb dL_reason_59 rfl (lv_at hl 0 rfl) ?_
            refine x_bipush hx hb dL_reason_60 (by decide) ?_
            refine x_iald hx hb hK hP 0 0 rfl rfl (by omega) (by omega) (Nat.le_of_ble_eq_true rfl) dL_reason_62 (fun v_13 hv_13 => ?_)
            refine x_top (show v_13 = tk by
                first
                | (
                   omega)
                | fail "q9") ?_
            refine lv_aload_n hx hb dL_reason_63 rfl (lv_at hl 0 rfl) ?_
            refine x_calli (S := Unit) (wc := [(aN, .inl (gI g, 1960, .inl (ar F)))]) (wr := []) hC hP hD hS hA [0] [] [0] rfl rfl (fun hpre => va_runS (As := [.ref aN]) (rest := [.int (iI tk)]) ⟨hx, hb, hml, hown, hts⟩ (c_L_takes l g H.size aN F kn ld pr nd wk (by first | (first | assumption | omega | exact bnd_up (by assumption) (by omega) (by omega)) | fail "q8") (by first | (first | assumption | omega | exact bnd_up (by assumption) (by omega) (by omega)) | fail "q8") (by first | (first | assumption | omega | exact bnd_up (by assumption) (by omega) (by omega)) | fail "q8") (by first | (first | assumption | omega | exact bnd_up (by assumption) (by omega) (by omega)) | fail "q8") (by first | (first | assumption | omega | exact bnd_up (by assumption) (by omega) (by omega)) | fail "q8") (by first | (first | assumption | omega | exact bnd_up (by assumption) (by omega) (by omega)) | fail "q8") (by first | (first | assumption | omega | exact bnd_up (by assumption) (by omega) (by omega)) | fail "q8") (by first | (exact n20 ld (by omega) (by omega)) | fail "q8") (by first | (exact n220 ld (by omega) (by omega)) | fail "q8")) (va_cwS 1 hts gL_reason_L_takes rfl rfl rfl (by decide +kernel) ⟨Nat.le_of_ble_eq_true rfl, Nat.le_of_ble_eq_true rfl⟩) ⟨xB_blind, hpre _⟩ rfl rfl hl.1 rfl (lv_room (Nat.le_of_ble_eq_true rfl)) dL_reason_64 ⟨Nat.le_of_ble_eq_true rfl, Nat.le_of_ble_eq_true rfl⟩) (fun (u : Unit) => [(aN, .inl (gI g, 1960, .inl (ar F)))]) rfl rfl (by decide) (fun _ => rfl) rfl (fun u v_14 H locs hv_14 pv_14 hP hD hS => ?_)
            have hP : va_P (gD g) vwCl [(aN, .inl (gI g, 1960, .inl (ar F)))] H := hP
            have hD : va_D A [(aN, .inl (gI g, 1960, .inl (ar F)))] := hD
            have hv_14 : v_14 = takF nd wk pr ld := hv_14
            have pv_14 : 10 ≤ v_14 ∧ v_14 ≤ 200 := by first | exact pv_14 | (rw [hv_14]; exact pv_14)
            have yv_14 : v_14 = takF nd wk pr ld := by
                first
                | (
                   exact hv_14)
                | fail "q9"
            refine x_top yv_14 ?_
            refine x_cmp_ge (tgt := 75) hx hb (by omega) (by omega) dL_reason_67 (by decide) (fun c_15 => ?_) (fun c_15 => ?_)
            · skip
              refine lv_aload_n hx hb dL_reason_75 rfl (lv_at hl 0 rfl) ?_
              refine lv_aload_n hx hb dL_reason_76 rfl (lv_at hl 0 rfl) ?_
              refine lv_aload_n hx hb dL_reason_77 rfl (lv_at hl 0 rfl) ?_
              refine lv_iload_n hx hb dL_reason_78 rfl (lv_at hl 1 rfl) ?_
              refine x_calli (S := Unit) (wc := [(aN, .inl (gI g, 1960, .inl (ar F)))]) (wr := []) hC hP hD hS hA [0] [] [0] rfl rfl (fun hpre => va_runS (As := [.ref aN, .int (iI sta)]) (rest := [.ref aN, .ref aN]) ⟨hx, hb, hml, hown, hts⟩ (c_L_topOf l g H.size aN sta F (by first | (first | assumption | omega | exact bnd_up (by assumption) (by omega) (by omega)) | fail "q8")) (va_cwS 2 hts gL_reason_L_topOf rfl rfl rfl (by decide +kernel) ⟨Nat.le_of_ble_eq_true rfl, Nat.le_of_ble_eq_true rfl⟩) ⟨xB_blind, hpre _⟩ rfl rfl hl.1 rfl (lv_room (Nat.le_of_ble_eq_true rfl)) dL_reason_79 ⟨Nat.le_of_ble_eq_true rfl, Nat.le_of_ble_eq_true rfl⟩) (fun (u : Unit) => [(aN, .inl (gI g, 1960, .inl (ar F)))]) rfl rfl (by decide) (fun _ => rfl) rfl (fun u v_16 H locs hv_16 pv_16 hP hD hS => ?_)
              have hP : va_P (gD g) vwCl [(aN, .inl (gI g, 1960, .inl (ar F)))] H := hP
              have hD : va_D A [(aN, .inl (gI g, 1960, .inl (ar F)))] := hD
              have hv_16 : v_16 = 1818 + 24 * sta + 2 * F (10 + sta) := hv_16
              have yv_16 : v_16 = 1818 + 24 * sta + 2 * ht sta := by
                  first
                  | (
                     rw [hv_16]
                     (repeat (first | rw [up_at _ _ (by omega)] | rw [up_ne _ _ (by omega)]))
                     omega)
                  | fail "q9"
              refine x_top yv_16 ?_
              refine x_iald hx hb hK hP 0 0 rfl rfl (by omega) (by omega) (Nat.le_of_ble_eq_true rfl) dL_reason_82 (fun v_17 hv_17 => ?_)
              refine x_top (show v_17 = yt (sta * 12 + (ht sta - 1)) by
                  first
                  | (
                     rw [hv_17, ← (nst sta (ht sta - 1) (by omega) (by omega) (by omega) (by omega)).1]
                     congr 1
                     omega)
                  | fail "q9") ?_
              refine lv_iload_n hx hb dL_reason_83 rfl (lv_at hl 2 rfl) ?_
              refine x_calli (S := Unit) (wc := [(aN, .inl (gI g, 1960, .inl (ar F)))]) (wr := []) hC hP hD hS hA [0] [] [0] rfl rfl (fun hpre => va_runS (As := [.ref aN, .int (iI (yt (sta * 12 + (ht sta - 1)))), .int (iI po)]) (rest := []) ⟨hx, hb, hml, hown, hts⟩ (c_L_deviation l g H.size aN (yt (sta * 12 + (ht sta - 1))) po F pn ld ehx ehy bx byy tp tt kx ky (by first | (first | assumption | omega | exact bnd_up (by assumption) (by omega) (by omega)) | fail "q8") (by first | (first | assumption | omega | exact bnd_up (by assumption) (by omega) (by omega)) | fail "q8") (by first | (first | assumption | omega | exact bnd_up (by assumption) (by omega) (by omega)) | fail "q8") (by first | (first | assumption | omega | exact bnd_up (by assumption) (by omega) (by omega)) | fail "q8") (by first | (first | assumption | omega | exact bnd_up (by assumption) (by omega) (by omega)) | fail "q8") (by first | (first | assumption | omega | exact bnd_up (by assumption) (by omega) (by omega)) | fail "q8") (by first | (first | assumption | omega | exact bnd_up (by assumption) (by omega) (by omega)) | fail "q8") (by first | (first | assumption | omega | exact bnd_up (by assumption) (by omega) (by omega)) | fail "q8") (by first | (first | assumption | omega | exact bnd_up (by assumption) (by omega) (by omega)) | fail "q8") (by first | (first | assumption | omega | exact bnd_up (by assumption) (by omega) (by omega)) | fail "q8") (by first | (first | assumption | omega | exact bnd_up (by assumption) (by omega) (by omega)) | fail "q8") (by first | (first | assumption | omega | exact bnd_up (by assumption) (by omega) (by omega)) | fail "q8") (by first | (exact hb_yt _) | fail "q8") (by first | (first | assumption | omega | exact bnd_up (by assumption) (by omega) (by omega)) | fail "q8") (by first | (first | assumption | omega | exact bnd_up (by assumption) (by omega) (by omega)) | fail "q8") (by first | (first | assumption | omega | exact bnd_up (by assumption) (by omega) (by omega)) | fail "q8") (by first | (first | assumption | omega | exact bnd_up (by assumption) (by omega) (by omega)) | fail "q8") (by first | (first | assumption | omega | exact bnd_up (by assumption) (by omega) (by omega)) | fail "q8")) (va_cwS 3 hts gL_reason_L_deviation rfl rfl rfl (by decide +kernel) ⟨Nat.le_of_ble_eq_true rfl, Nat.le_of_ble_eq_true rfl⟩) ⟨xB_blind, hpre _⟩ rfl rfl hl.1 rfl (lv_room (Nat.le_of_ble_eq_true rfl)) dL_reason_84 ⟨Nat.le_of_ble_eq_true rfl, Nat.le_of_ble_eq_true rfl⟩) (fun (u : Unit) => [(aN, .inl (gI g, 1960, .inl (ar F)))]) rfl rfl (by decide) (fun _ => rfl) rfl (fun u v_18 H locs hv_18 pv_18 hP hD hS => ?_)
              have hP : va_P (gD g) vwCl [(aN, .inl (gI g, 1960, .inl (ar F)))] H := hP
              have hD : va_D A [(aN, .inl (gI g, 1960, .inl (ar F)))] := hD
              have hv_18 : v_18 = devF pn bx byy kx ky ld ehx ehy (yt (sta * 12 + (ht sta - 1))) po := hv_18
              have pv_18 : 0 ≤ v_18 ∧ v_18 ≤ 3000000 := by first | exact pv_18 | (rw [hv_18]; exact pv_18)
              have yv_18 : v_18 = devF pn bx byy kx ky ld ehx ehy (yt (sta * 12 + (ht sta - 1))) po := by
                  first
                  | (
                     exact hv_18)
                  | fail "q9"
              refine x_top yv_18 ?_
              have hdr := pv_18
              refine lv_aload_n hx hb dL_reason_87 rfl (lv_at hl 0 rfl) ?_
              refine x_bipush hx hb dL_reason_88 (by decide) ?_
              refine x_iald hx hb hK hP 0 0 rfl rfl (by omega) (by omega) (Nat.le_of_ble_eq_true rfl) dL_reason_90 (fun v_19 hv_19 => ?_)
              refine x_top (show v_19 = tol by
                  first
                  | (
                     omega)
                  | fail "q9") ?_
              refine x_cmp_le (tgt := 99) hx hb (by omega) (by omega) dL_reason_91 (by decide) (fun c_20 => ?_) (fun c_20 => ?_)
              · skip
                refine x_bipush hx hb dL_reason_99 (by decide) ?_
                rw [hQ9]
                exact x_iret hx hb hr hlocks hP hD hS (S := Unit) (nar_c (by omega)) dL_reason_101 () (by
                    first
                    | (
                       unfold reaF
                       dsimp only [fitP]
                       omega)
                    | fail "q9") (by
                    first
                    | (
                       unfold reaF
                       omega)
                    | fail "q9") rfl (Nat.le_of_ble_eq_true rfl) (Nat.le_of_ble_eq_true rfl)
              · skip
                refine x_bipush hx hb dL_reason_94 (by decide) ?_
                refine lv_goto (tgt := 101) hx hb dL_reason_96 (by decide) ?_
                rw [hQ9]
                exact x_iret hx hb hr hlocks hP hD hS (S := Unit) (nar_c (by omega)) dL_reason_101 () (by
                    first
                    | (
                       unfold reaF
                       dsimp only [fitP]
                       omega)
                    | fail "q9") (by
                    first
                    | (
                       unfold reaF
                       omega)
                    | fail "q9") rfl (Nat.le_of_ble_eq_true rfl) (Nat.le_of_ble_eq_true rfl)
            · skip
              refine x_bipush hx hb dL_reason_70 (by decide) ?_
              refine lv_goto (tgt := 101) hx hb dL_reason_72 (by decide) ?_
              rw [hQ9]
              exact x_iret hx hb hr hlocks hP hD hS (S := Unit) (nar_c (by omega)) dL_reason_101 () (by
                  first
                  | (
                     unfold reaF
                     dsimp only [fitP]
                     omega)
                  | fail "q9") (by
                  first
                  | (
                     unfold reaF
                     omega)
                  | fail "q9") rfl (Nat.le_of_ble_eq_true rfl) (Nat.le_of_ble_eq_true rfl)
          · skip
            refine x_bipush hx hb dL_reason_56 (by decide) ?_
            rw [hQ9]
            exact x_iret hx hb hr hlocks hP hD hS (S := Unit) (nar_c (by omega)) dL_reason_58 () (by
                first
                | (
                   unfold reaF
                   dsimp only [fitP]
                   omega)
                | fail "q9") (by
                first
                | (
                   unfold reaF
                   omega)
                | fail "q9") rfl (Nat.le_of_ble_eq_true rfl) (Nat.le_of_ble_eq_true rfl)
        · skip
          refine x_bipush hx hb dL_reason_42 (by decide) ?_
          rw [hQ9]
          exact x_iret hx hb hr hlocks hP hD hS (S := Unit) (nar_c (by omega)) dL_reason_44 () (by
              first
              | (
                 unfold reaF
                 dsimp only [fitP]
                 omega)
              | fail "q9") (by
              first
              | (
                 unfold reaF
                 omega)
              | fail "q9") rfl (Nat.le_of_ble_eq_true rfl) (Nat.le_of_ble_eq_true rfl)
      · skip
        refine x_bipush hx hb dL_reason_21 (by decide) ?_
        rw [hQ9]
        exact x_iret hx hb hr hlocks hP hD hS (S := Unit) (nar_c (by omega)) dL_reason_23 () (by
            first
            | (
               unfold reaF
               dsimp only [fitP]
               omega)
            | fail "q9") (by
            first
            | (
               unfold reaF
               omega)
            | fail "q9") rfl (Nat.le_of_ble_eq_true rfl) (Nat.le_of_ble_eq_true rfl)
    · skip
      refine x_bipush hx hb dL_reason_9 (by decide) ?_
      rw [hQ9]
      exact x_iret hx hb hr hlocks hP hD hS (S := Unit) (nar_c (by omega)) dL_reason_11 () (by
          first
          | (
             unfold reaF
             dsimp only [fitP]
             omega)
          | fail "q9") (by
          first
          | (
             unfold reaF
             omega)
          | fail "q9") rfl (Nat.le_of_ble_eq_true rfl) (Nat.le_of_ble_eq_true rfl)
  rw [hH, hlo, hQ9] at goal_
  exact goal_
