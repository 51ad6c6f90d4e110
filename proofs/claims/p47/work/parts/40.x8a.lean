set_option maxHeartbeats 4000000 in
set_option maxRecDepth 100000 in
theorem c_X8_checkRange (l : Launch) (hflags : l.stackTraces = false) (g : xg) (sz : Nat) (vv lo hi_ : Int) (hr_vv : iR vv) (hr_lo : iR lo) (hr_hi_ : iR hi_) : vx_Met l yX8_checkRange wsX8_checkRange { frames := 6, cells := 1, slots := 6, locals := 92 } (va_Pc [.int (iI vv), .int (iI lo), .int (iI hi_)] (xB g [] sz)) (va_Qv (fun (u : Unit) => (lo ≤ vv ∧ vv ≤ hi_) ∧ (True)) (fun u t => xE g (va_A [] sz) ((fun (u : Unit) => []) u) t) (va_A [] sz)) (xX g (va_A [] sz) (fun (u : Unit) => True) (fun E : String => (E = "java/lang/IllegalArgumentException" ∧ (¬ (lo ≤ vv ∧ vv ≤ hi_)))) (fun (u : Unit) => ([] : va_W))) 1 6 (va_A [] sz) := by
  refine x_enterX (y := yX8_checkRange) (ws := wsX8_checkRange) (g := g) (sz := sz) (av := [.int (iI vv), .int (iI lo), .int (iI hi_)]) (WS := []) (cc := cX8_checkRange) (maxL := 3) (ret := none) (Qc := (fun A => (va_Qv (fun (u : Unit) => (lo ≤ vv ∧ vv ≤ hi_) ∧ (True)) (fun u t => xE g A ((fun (u : Unit) => []) u) t) A))) (XC := (fun A => (xX g A (fun (u : Unit) => True) (fun E : String => (E = "java/lang/IllegalArgumentException" ∧ (¬ (lo ≤ vv ∧ vv ≤ hi_)))) (fun (u : Unit) => ([] : va_W))))) (by decide) rfl (Nat.le_of_ble_eq_true rfl) ?_
  intro p e s m args below meth c A ls hx hb hr hml hown hts hlocks hout hC hP hD hS hA hl
  have hK := hC.1
  have hown : s.vm.findClass RX8 = some m.cls := hown
  have hl : lv_has ls 3 [(0, .int (iI vv)), (1, .int (iI lo)), (2, .int (iI hi_))] := hl
  obtain ⟨H, hH⟩ : ∃ z, z = s.heap := ⟨_, rfl⟩
  obtain ⟨locs, hlo⟩ : ∃ z : List Loc, z = [] := ⟨_, rfl⟩
  obtain ⟨Q9, hQ9⟩ : ∃ z, z = vx_MQ below (va_Qv (fun (u : Unit) => (lo ≤ vv ∧ vv ≤ hi_) ∧ (True)) (fun u t => xE g A ((fun (u : Unit) => []) u) t) A) (xX g A (fun (u : Unit) => True) (fun E : String => (E = "java/lang/IllegalArgumentException" ∧ (¬ (lo ≤ vv ∧ vv ≤ hi_)))) (fun (u : Unit) => ([] : va_W))) args s 1 6 A := ⟨_, rfl⟩
  have hP : va_P (gD g) vwCl [] H := by rw [hH]; exact hP
  have hS : va_S A s.heap H locs := by rw [hH, hlo]; exact hS
  have goal_ : W p l e { frames := 6, cells := 1, slots := 6, locals := 92 } s m args below meth c H locs 0 0 Q9 (F0 m 0 ls []) := by
    clear hH hlo
    refine lv_iload_n hx hb dX8_checkRange_0 rfl (lv_at hl 0 rfl) ?_
    refine lv_iload_n hx hb dX8_checkRange_1 rfl (lv_at hl 1 rfl) ?_
    refine x_cmp_lt (tgt := 10) hx hb (by omega) (by omega) dX8_checkRange_2 (by decide) (fun c_1 => ?_) (fun c_1 => ?_)
    · skip
      rw [hQ9]
      exact x_throwSW hx hb hflags hown (by decide +kernel) (by decide +kernel) (hts (.classLink RX8 112 "java/lang/IllegalArgumentException") (List.mem_of_getElem? (i := 1) rfl)) (hts (.initialized "java/lang/IllegalArgumentException") (List.mem_of_getElem? (i := 2) rfl)) (hC.2.2.2.2.2.1 _ (List.mem_of_getElem? (i := 11) rfl)) (vx_hat (B := [.castable "java/lang/IllegalArgumentException" "java/lang/IllegalArgumentException", .declares (Bundle.initS "java/lang/RuntimeException"), .declares (Bundle.initS "java/lang/Exception"), .declares (Bundle.initS "java/lang/Throwable")]) (fun w h => hts w (List.mem_cons_of_mem _ (List.mem_append_right _ h))) (by decide +kernel) (vx_c (va_Nw.use rfl (hC.2.2.2.2.2.2.2.2.2.2.1 "java/lang/IllegalArgumentException" (List.mem_of_getElem? (i := 0) rfl))) (vx_c (va_Nw.use rfl (hC.2.2.2.2.2.2.2.2.2.2.2.1 "java/lang/RuntimeException" (List.mem_of_getElem? (i := 0) rfl))) (vx_c (va_Nw.use rfl (hC.2.2.2.2.2.2.2.2.2.2.2.1 "java/lang/Exception" (List.mem_of_getElem? (i := 1) rfl))) (vx_c (va_Nw.use rfl (hC.2.2.2.2.2.2.2.2.2.2.2.1 "java/lang/Throwable" (List.mem_of_getElem? (i := 2) rfl))) vx_n))))) (by decide +kernel) hC hP hD hS (hl.1.trans hml.symm) dX8_checkRange_10 dX8_checkRange_13 dX8_checkRange_14 dX8_checkRange_17 dX8_checkRange_20 hout (Nat.le_of_ble_eq_true rfl) (Nat.le_of_ble_eq_true rfl) (Nat.le_of_ble_eq_true rfl) (Nat.le_of_ble_eq_true rfl) hlocks () trivial ⟨rfl, (by
          first
          | (
             first | trivial | assumption | omega)
          | fail "q9")⟩ rfl (Nat.le_of_ble_eq_true rfl) (Nat.le_of_ble_eq_true rfl)
    · skip
      refine lv_iload_n hx hb dX8_checkRange_5 rfl (lv_at hl 0 rfl) ?_
      refine lv_iload_n hx hb dX8_checkRange_6 rfl (lv_at hl 2 rfl) ?_
      refine x_cmp_le (tgt := 21) hx hb (by omega) (by omega) dX8_checkRange_7 (by decide) (fun c_2 => ?_) (fun c_2 => ?_)
      · skip
        rw [hQ9]
        exact vx_ret (x_vret hx hb hr hlocks hP hD hS (S := Unit) (Φ := _) (W1 := _) dX8_checkRange_21 () ⟨(by
            first
            | (
               first | trivial | assumption | omega)
            | fail "q9"), trivial⟩ rfl (Nat.le_of_ble_eq_true rfl) (Nat.le_of_ble_eq_true rfl))
      · skip
        rw [hQ9]
        exact x_throwSW hx hb hflags hown (by decide +kernel) (by decide +kernel) (hts (.classLink RX8 112 "java/lang/IllegalArgumentException") (List.mem_of_getElem? (i := 1) rfl)) (hts (.initialized "java/lang/IllegalArgumentException") (List.mem_of_getElem? (i := 2) rfl)) (hC.2.2.2.2.2.1 _ (List.mem_of_getElem? (i := 11) rfl)) (vx_hat (B := [.castable "java/lang/IllegalArgumentException" "java/lang/IllegalArgumentException", .declares (Bundle.initS "java/lang/RuntimeException"), .declares (Bundle.initS "java/lang/Exception"), .declares (Bundle.initS "java/lang/Throwable")]) (fun w h => hts w (List.mem_cons_of_mem _ (List.mem_append_right _ h))) (by decide +kernel) (vx_c (va_Nw.use rfl (hC.2.2.2.2.2.2.2.2.2.2.1 "java/lang/IllegalArgumentException" (List.mem_of_getElem? (i := 0) rfl))) (vx_c (va_Nw.use rfl (hC.2.2.2.2.2.2.2.2.2.2.2.1 "java/lang/RuntimeException" (List.mem_of_getElem? (i := 0) rfl))) (vx_c (va_Nw.use rfl (hC.2.2.2.2.2.2.2.2.2.2.2.1 "java/lang/Exception" (List.mem_of_getElem? (i := 1) rfl))) (vx_c (va_Nw.use rfl (hC.2.2.2.2.2.2.2.2.2.2.2.1 "java/lang/Throwable" (List.mem_of_getElem? (i := 2) rfl))) vx_n))))) (by decide +kernel) hC hP hD hS (hl.1.trans hml.symm) dX8_checkRange_10 dX8_checkRange_13 dX8_checkRange_14 dX8_checkRange_17 dX8_checkRange_20 hout (Nat.le_of_ble_eq_true rfl) (Nat.le_of_ble_eq_true rfl) (Nat.le_of_ble_eq_true rfl) (Nat.le_of_ble_eq_true rfl) hlocks () trivial ⟨rfl, (by
            first
            | (
               first | trivial | assumption | omega)
            | fail "q9")⟩ rfl (Nat.le_of_ble_eq_true rfl) (Nat.le_of_ble_eq_true rfl)
  rw [hH, hlo, hQ9] at goal_
  exact goal_

set_option maxHeartbeats 4000000 in
set_option maxRecDepth 100000 in
theorem c_X8_checkStack (l : Launch) (hflags : l.stackTraces = false) (g : xg) (sz : Nat) (sta : Int) (hr_sta : iR sta) : vx_Met l yX8_checkStack wsX8_checkStack { frames := 6, cells := 1, slots := 6, locals := 92 } (va_Pc [.int (iI sta)] (xB g [] sz)) (va_Qv (fun (u : Unit) => (0 ≤ sta ∧ sta ≤ 2) ∧ (True)) (fun u t => xE g (va_A [] sz) ((fun (u : Unit) => []) u) t) (va_A [] sz)) (xX g (va_A [] sz) (fun (u : Unit) => True) (fun E : String => (E = "java/lang/IndexOutOfBoundsException" ∧ (¬ (0 ≤ sta ∧ sta ≤ 2)))) (fun (u : Unit) => ([] : va_W))) 1 6 (va_A [] sz) := by
  refine x_enterX (y := yX8_checkStack) (ws := wsX8_checkStack) (g := g) (sz := sz) (av := [.int (iI sta)]) (WS := []) (cc := cX8_checkStack) (maxL := 1) (ret := none) (Qc := (fun A => (va_Qv (fun (u : Unit) => (0 ≤ sta ∧ sta ≤ 2) ∧ (True)) (fun u t => xE g A ((fun (u : Unit) => []) u) t) A))) (XC := (fun A => (xX g A (fun (u : Unit) => True) (fun E : String => (E = "java/lang/IndexOutOfBoundsException" ∧ (¬ (0 ≤ sta ∧ sta ≤ 2)))) (fun (u : Unit) => ([] : va_W))))) (by decide) rfl (Nat.le_of_ble_eq_true rfl) ?_
  intro p e s m args below meth c A ls hx hb hr hml hown hts hlocks hout hC hP hD hS hA hl
  have hK := hC.1
  have hown : s.vm.findClass RX8 = some m.cls := hown
  have hl : lv_has ls 1 [(0, .int (iI sta))] := hl
  obtain ⟨H, hH⟩ : ∃ z, z = s.heap := ⟨_, rfl⟩
  obtain ⟨locs, hlo⟩ : ∃ z : List Loc, z = [] := ⟨_, rfl⟩
  obtain ⟨Q9, hQ9⟩ : ∃ z, z = vx_MQ below (va_Qv (fun (u : Unit) => (0 ≤ sta ∧ sta ≤ 2) ∧ (True)) (fun u t => xE g A ((fun (u : Unit) => []) u) t) A) (xX g A (fun (u : Unit) => True) (fun E : String => (E = "java/lang/IndexOutOfBoundsException" ∧ (¬ (0 ≤ sta ∧ sta ≤ 2)))) (fun (u : Unit) => ([] : va_W))) args s 1 6 A := ⟨_, rfl⟩
  have hP : va_P (gD g) vwCl [] H := by rw [hH]; exact hP
  have hS : va_S A s.heap H locs := by rw [hH, hlo]; exact hS
  have goal_ : W p l e { frames := 6, cells := 1, slots := 6, locals := 92 } s m args below meth c H locs 0 0 Q9 (F0 m 0 ls []) := by
    clear hH hlo
    refine lv_iload_n hx hb dX8_checkStack_0 rfl (lv_at hl 0 rfl) ?_
    refine x_if_lt (tgt := 9) hx hb (by omega) dX8_checkStack_1 (by decide) (fun c_1 => ?_) (fun c_1 => ?_)
    · skip
      rw [hQ9]
      exact x_throwSW hx hb hflags hown (by decide +kernel) (by decide +kernel) (hts (.classLink RX8 322 "java/lang/IndexOutOfBoundsException") (List.mem_of_getElem? (i := 1) rfl)) (hts (.initialized "java/lang/IndexOutOfBoundsException") (List.mem_of_getElem? (i := 2) rfl)) (hC.2.2.2.2.2.1 _ (List.mem_of_getElem? (i := 12) rfl)) (vx_hat (B := [.castable "java/lang/IndexOutOfBoundsException" "java/lang/IndexOutOfBoundsException", .declares (Bundle.initS "java/lang/RuntimeException"), .declares (Bundle.initS "java/lang/Exception"), .declares (Bundle.initS "java/lang/Throwable")]) (fun w h => hts w (List.mem_cons_of_mem _ (List.mem_append_right _ h))) (by decide +kernel) (vx_c (va_Nw.use rfl (hC.2.2.2.2.2.2.2.2.2.2.1 "java/lang/IndexOutOfBoundsException" (List.mem_of_getElem? (i := 2) rfl))) (vx_c (va_Nw.use rfl (hC.2.2.2.2.2.2.2.2.2.2.2.1 "java/lang/RuntimeException" (List.mem_of_getElem? (i := 0) rfl))) (vx_c (va_Nw.use rfl (hC.2.2.2.2.2.2.2.2.2.2.2.1 "java/lang/Exception" (List.mem_of_getElem? (i := 1) rfl))) (vx_c (va_Nw.use rfl (hC.2.2.2.2.2.2.2.2.2.2.2.1 "java/lang/Throwable" (List.mem_of_getElem? (i := 2) rfl))) vx_n))))) (by decide +kernel) hC hP hD hS (hl.1.trans hml.symm) dX8_checkStack_9 dX8_checkStack_12 dX8_checkStack_13 dX8_checkStack_16 dX8_checkStack_19 hout (Nat.le_of_ble_eq_true rfl) (Nat.le_of_ble_eq_true rfl) (Nat.le_of_ble_eq_true rfl) (Nat.le_of_ble_eq_true rfl) hlocks () trivial ⟨rfl, (by
          first
          | (
             first | trivial | assumption | omega)
          | fail "q9")⟩ rfl (Nat.le_of_ble_eq_true rfl) (Nat.le_of_ble_eq_true rfl)
    · skip
      refine lv_iload_n hx hb dX8_checkStack_4 rfl (lv_at hl 0 rfl) ?_
      refine x_iconst hx hb dX8_checkStack_5 ?_
      refine x_cmp_lt (tgt := 20) hx hb (by omega) (by omega) dX8_checkStack_6 (by decide) (fun c_2 => ?_) (fun c_2 => ?_)
      · skip
        rw [hQ9]
        exact vx_ret (x_vret hx hb hr hlocks hP hD hS (S := Unit) (Φ := _) (W1 := _) dX8_checkStack_20 () ⟨(by
            first
            | (
               first | trivial | assumption | omega)
            | fail "q9"), trivial⟩ rfl (Nat.le_of_ble_eq_true rfl) (Nat.le_of_ble_eq_true rfl))
      · skip
        rw [hQ9]
        exact x_throwSW hx hb hflags hown (by decide +kernel) (by decide +kernel) (hts (.classLink RX8 322 "java/lang/IndexOutOfBoundsException") (List.mem_of_getElem? (i := 1) rfl)) (hts (.initialized "java/lang/IndexOutOfBoundsException") (List.mem_of_getElem? (i := 2) rfl)) (hC.2.2.2.2.2.1 _ (List.mem_of_getElem? (i := 12) rfl)) (vx_hat (B := [.castable "java/lang/IndexOutOfBoundsException" "java/lang/IndexOutOfBoundsException", .declares (Bundle.initS "java/lang/RuntimeException"), .declares (Bundle.initS "java/lang/Exception"), .declares (Bundle.initS "java/lang/Throwable")]) (fun w h => hts w (List.mem_cons_of_mem _ (List.mem_append_right _ h))) (by decide +kernel) (vx_c (va_Nw.use rfl (hC.2.2.2.2.2.2.2.2.2.2.1 "java/lang/IndexOutOfBoundsException" (List.mem_of_getElem? (i := 2) rfl))) (vx_c (va_Nw.use rfl (hC.2.2.2.2.2.2.2.2.2.2.2.1 "java/lang/RuntimeException" (List.mem_of_getElem? (i := 0) rfl))) (vx_c (va_Nw.use rfl (hC.2.2.2.2.2.2.2.2.2.2.2.1 "java/lang/Exception" (List.mem_of_getElem? (i := 1) rfl))) (vx_c (va_Nw.use rfl (hC.2.2.2.2.2.2.2.2.2.2.2.1 "java/lang/Throwable" (List.mem_of_getElem? (i := 2) rfl))) vx_n))))) (by decide +kernel) hC hP hD hS (hl.1.trans hml.symm) dX8_checkStack_9 dX8_checkStack_12 dX8_checkStack_13 dX8_checkStack_16 dX8_checkStack_19 hout (Nat.le_of_ble_eq_true rfl) (Nat.le_of_ble_eq_true rfl) (Nat.le_of_ble_eq_true rfl) (Nat.le_of_ble_eq_true rfl) hlocks () trivial ⟨rfl, (by
            first
            | (
               first | trivial | assumption | omega)
            | fail "q9")⟩ rfl (Nat.le_of_ble_eq_true rfl) (Nat.le_of_ble_eq_true rfl)
  rw [hH, hlo, hQ9] at goal_
  exact goal_

set_option maxHeartbeats 4000000 in
set_option maxRecDepth 100000 in
theorem c_X8_checkPosition (l : Launch) (hflags : l.stackTraces = false) (g : xg) (sz : Nat) (po : Int) (hr_po : iR po) : vx_Met l yX8_checkPosition wsX8_checkPosition { frames := 6, cells := 1, slots := 6, locals := 92 } (va_Pc [.int (iI po)] (xB g [] sz)) (va_Qv (fun (u : Unit) => (0 ≤ po ∧ po ≤ 7) ∧ (True)) (fun u t => xE g (va_A [] sz) ((fun (u : Unit) => []) u) t) (va_A [] sz)) (xX g (va_A [] sz) (fun (u : Unit) => True) (fun E : String => (E = "java/lang/IllegalArgumentException" ∧ (¬ (0 ≤ po ∧ po ≤ 7)))) (fun (u : Unit) => ([] : va_W))) 1 6 (va_A [] sz) := by
  refine x_enterX (y := yX8_checkPosition) (ws := wsX8_checkPosition) (g := g) (sz := sz) (av := [.int (iI po)]) (WS := []) (cc := cX8_checkPosition) (maxL := 1) (ret := none) (Qc := (fun A => (va_Qv (fun (u : Unit) => (0 ≤ po ∧ po ≤ 7) ∧ (True)) (fun u t => xE g A ((fun (u : Unit) => []) u) t) A))) (XC := (fun A => (xX g A (fun (u : Unit) => True) (fun E : String => (E = "java/lang/IllegalArgumentException" ∧ (¬ (0 ≤ po ∧ po ≤ 7)))) (fun (u : Unit) => ([] : va_W))))) (by decide) rfl (Nat.le_of_ble_eq_true rfl) ?_
  intro p e s m args below meth c A ls hx hb hr hml hown hts hlocks hout hC hP hD hS hA hl
  have hK := hC.1
  have hown : s.vm.findClass RX8 = some m.cls := hown
  have hl : lv_has ls 1 [(0, .int (iI po))] := hl
  obtain ⟨H, hH⟩ : ∃ z, z = s.heap := ⟨_, rfl⟩
  obtain ⟨locs, hlo⟩ : ∃ z : List Loc, z = [] := ⟨_, rfl⟩
  obtain ⟨Q9, hQ9⟩ : ∃ z, z = vx_MQ below (va_Qv (fun (u : Unit) => (0 ≤ po ∧ po ≤ 7) ∧ (True)) (fun u t => xE g A ((fun (u : Unit) => []) u) t) A) (xX g A (fun (u : Unit) => True) (fun E : String => (E = "java/lang/IllegalArgumentException" ∧ (¬ (0 ≤ po ∧ po ≤ 7)))) (fun (u : Unit) => ([] : va_W))) args s 1 6 A := ⟨_, rfl⟩
  have hP : va_P (gD g) vwCl [] H := by rw [hH]; exact hP
  have hS : va_S A s.heap H locs := by rw [hH, hlo]; exact hS
  have goal_ : W p l e { frames := 6, cells := 1, slots := 6, locals := 92 } s m args below meth c H locs 0 0 Q9 (F0 m 0 ls []) := by
    clear hH hlo
    refine lv_iload_n hx hb dX8_checkPosition_0 rfl (lv_at hl 0 rfl) ?_
    refine x_if_lt (tgt := 12) hx hb (by omega) dX8_checkPosition_1 (by decide) (fun c_1 => ?_) (fun c_1 => ?_)
    · skip
      rw [hQ9]
      exact x_throwSW hx hb hflags hown (by decide +kernel) (by decide +kernel) (hts (.classLink RX8 112 "java/lang/IllegalArgumentException") (List.mem_of_getElem? (i := 1) rfl)) (hts (.initialized "java/lang/IllegalArgumentException") (List.mem_of_getElem? (i := 2) rfl)) (hC.2.2.2.2.2.1 _ (List.mem_of_getElem? (i := 13) rfl)) (vx_hat (B := [.castable "java/lang/IllegalArgumentException" "java/lang/IllegalArgumentException", .declares (Bundle.initS "java/lang/RuntimeException"), .declares (Bundle.initS "java/lang/Exception"), .declares (Bundle.initS "java/lang/Throwable")]) (fun w h => hts w (List.mem_cons_of_mem _ (List.mem_append_right _ h))) (by decide +kernel) (vx_c (va_Nw.use rfl (hC.2.2.2.2.2.2.2.2.2.2.1 "java/lang/IllegalArgumentException" (List.mem_of_getElem? (i := 0) rfl))) (vx_c (va_Nw.use rfl (hC.2.2.2.2.2.2.2.2.2.2.2.1 "java/lang/RuntimeException" (List.mem_of_getElem? (i := 0) rfl))) (vx_c (va_Nw.use rfl (hC.2.2.2.2.2.2.2.2.2.2.2.1 "java/lang/Exception" (List.mem_of_getElem? (i := 1) rfl))) (vx_c (va_Nw.use rfl (hC.2.2.2.2.2.2.2.2.2.2.2.1 "java/lang/Throwable" (List.mem_of_getElem? (i := 2) rfl))) vx_n))))) (by decide +kernel) hC hP hD hS (hl.1.trans hml.symm) dX8_checkPosition_12 dX8_checkPosition_15 dX8_checkPosition_16 dX8_checkPosition_19 dX8_checkPosition_22 hout (Nat.le_of_ble_eq_true rfl) (Nat.le_of_ble_eq_true rfl) (Nat.le_of_ble_eq_true rfl) (Nat.le_of_ble_eq_true rfl) hlocks () trivial ⟨rfl, (by
          first
          | (
             first | trivial | assumption | omega)
          | fail "q9")⟩ rfl (Nat.le_of_ble_eq_true rfl) (Nat.le_of_ble_eq_true rfl)
    · skip
      refine lv_iload_n hx hb dX8_checkPosition_4 rfl (lv_at hl 0 rfl) ?_
      refine va_gets hx hb hC.2.1.1 hS hown (hts (.fieldLink RX8 260 "TunnelRing" "TO_SIDE" "[I") (List.mem_of_getElem? (i := 3) rfl)) (fun _ h9 => h9) dX8_checkPosition_5 ?_
      refine va_tlen hx hb hC.2.1.2 hS (v := iI 8) (by decide) dX8_checkPosition_8 ?_
      refine x_cmp_lt (tgt := 23) hx hb (by omega) (by omega) dX8_checkPosition_9 (by decide) (fun c_2 => ?_) (fun c_2 => ?_)
      · skip
        rw [hQ9]
        exact vx_ret (x_vret hx hb hr hlocks hP hD hS (S := Unit) (Φ := _) (W1 := _) dX8_checkPosition_23 () ⟨(by
            first
            | (
               first | trivial | assumption | omega)
            | fail "q9"), trivial⟩ rfl (Nat.le_of_ble_eq_true rfl) (Nat.le_of_ble_eq_true rfl))
      · skip
        rw [hQ9]
        exact x_throwSW hx hb hflags hown (by decide +kernel) (by decide +kernel) (hts (.classLink RX8 112 "java/lang/IllegalArgumentException") (List.mem_of_getElem? (i := 1) rfl)) (hts (.initialized "java/lang/IllegalArgumentException") (List.mem_of_getElem? (i := 2) rfl)) (hC.2.2.2.2.2.1 _ (List.mem_of_getElem? (i := 13) rfl)) (vx_hat (B := [.castable "java/lang/IllegalArgumentException" "java/lang/IllegalArgumentException", .declares (Bundle.initS "java/lang/RuntimeException"), .declares (Bundle.initS "java/lang/Exception"), .declares (Bundle.initS "java/lang/Throwable")]) (fun w h => hts w (List.mem_cons_of_mem _ (List.mem_append_right _ h))) (by decide +kernel) (vx_c (va_Nw.use rfl (hC.2.2.2.2.2.2.2.2.2.2.1 "java/lang/IllegalArgumentException" (List.mem_of_getElem? (i := 0) rfl))) (vx_c (va_Nw.use rfl (hC.2.2.2.2.2.2.2.2.2.2.2.1 "java/lang/RuntimeException" (List.mem_of_getElem? (i := 0) rfl))) (vx_c (va_Nw.use rfl (hC.2.2.2.2.2.2.2.2.2.2.2.1 "java/lang/Exception" (List.mem_of_getElem? (i := 1) rfl))) (vx_c (va_Nw.use rfl (hC.2.2.2.2.2.2.2.2.2.2.2.1 "java/lang/Throwable" (List.mem_of_getElem? (i := 2) rfl))) vx_n))))) (by decide +kernel) hC hP hD hS (hl.1.trans hml.symm) dX8_checkPosition_12 dX8_checkPosition_15 dX8_checkPosition_16 dX8_checkPosition_19 dX8_checkPosition_22 hout (Nat.le_of_ble_eq_true rfl) (Nat.le_of_ble_eq_true rfl) (Nat.le_of_ble_eq_true rfl) (Nat.le_of_ble_eq_true rfl) hlocks () trivial ⟨rfl, (by
            first
            | (
               first | trivial | assumption | omega)
            | fail "q9")⟩ rfl (Nat.le_of_ble_eq_true rfl) (Nat.le_of_ble_eq_true rfl)
  rw [hH, hlo, hQ9] at goal_
  exact goal_

set_option maxHeartbeats 4000000 in
set_option maxRecDepth 100000 in
theorem c_X8_checkGround (l : Launch) (hflags : l.stackTraces = false) (g : xg) (sz : Nat) (aR aG aP aH aY aT aS aF aX aGn aGw aGs : Nat) (pr tk tol hou kn rg : Int) (hkn : 0 ≤ kn ∧ kn ≤ 200) (hr_rg : iR rg) : vx_Met l yX8_checkGround wsX8_checkGround { frames := 6, cells := 1, slots := 6, locals := 92 } (va_Pc [.ref aR, .int (iI rg)] (xB g [(aR, .inr (11, [.ref aG, .ref aP, .ref aH, .ref aY, .ref aT, .ref aS, .ref aF, .ref aX, .int (iI pr), .int (iI tk), .int (iI tol), .int (iI hou)])), (aG, .inr (4, [.ref aGn, .ref aGw, .ref aGs, .int (iI kn)]))] sz)) (va_Qv (fun (u : Unit) => (0 ≤ rg ∧ rg < kn) ∧ (True)) (fun u t => xE g (va_A [(aR, .inr (11, [.ref aG, .ref aP, .ref aH, .ref aY, .ref aT, .ref aS, .ref aF, .ref aX, .int (iI pr), .int (iI tk), .int (iI tol), .int (iI hou)])), (aG, .inr (4, [.ref aGn, .ref aGw, .ref aGs, .int (iI kn)]))] sz) ((fun (u : Unit) => [(aR, .inr (11, [.ref aG, .ref aP, .ref aH, .ref aY, .ref aT, .ref aS, .ref aF, .ref aX, .int (iI pr), .int (iI tk), .int (iI tol), .int (iI hou)])), (aG, .inr (4, [.ref aGn, .ref aGw, .ref aGs, .int (iI kn)]))]) u) t) (va_A [(aR, .inr (11, [.ref aG, .ref aP, .ref aH, .ref aY, .ref aT, .ref aS, .ref aF, .ref aX, .int (iI pr), .int (iI tk), .int (iI tol), .int (iI hou)])), (aG, .inr (4, [.ref aGn, .ref aGw, .ref aGs, .int (iI kn)]))] sz)) (xX g (va_A [(aR, .inr (11, [.ref aG, .ref aP, .ref aH, .ref aY, .ref aT, .ref aS, .ref aF, .ref aX, .int (iI pr), .int (iI tk), .int (iI tol), .int (iI hou)])), (aG, .inr (4, [.ref aGn, .ref aGw, .ref aGs, .int (iI kn)]))] sz) (fun (u : Unit) => True) (fun E : String => (E = "java/lang/IndexOutOfBoundsException" ∧ (¬ (0 ≤ rg ∧ rg < kn)))) (fun (u : Unit) => ([(aR, .inr (11, [.ref aG, .ref aP, .ref aH, .ref aY, .ref aT, .ref aS, .ref aF, .ref aX, .int (iI pr), .int (iI tk), .int (iI tol), .int (iI hou)])), (aG, .inr (4, [.ref aGn, .ref aGw, .ref aGs, .int (iI kn)]))] : va_W))) 1 6 (va_A [(aR, .inr (11, [.ref aG, .ref aP, .ref aH, .ref aY, .ref aT, .ref aS, .ref aF, .ref aX, .int (iI pr), .int (iI tk), .int (iI tol), .int (iI hou)])), (aG, .inr (4, [.ref aGn, .ref aGw, .ref aGs, .int (iI kn)]))] sz) := by
  refine x_enterX (y := yX8_checkGround) (ws := wsX8_checkGround) (g := g) (sz := sz) (av := [.ref aR, .int (iI rg)]) (WS := [(aR, .inr (11, [.ref aG, .ref aP, .ref aH, .ref aY, .ref aT, .ref aS, .ref aF, .ref aX, .int (iI pr), .int (iI tk), .int (iI tol), .int (iI hou)])), (aG, .inr (4, [.ref aGn, .ref aGw, .ref aGs, .int (iI kn)]))]) (cc := cX8_checkGround) (maxL := 2) (ret := none) (Qc := (fun A => (va_Qv (fun (u : Unit) => (0 ≤ rg ∧ rg < kn) ∧ (True)) (fun u t => xE g A ((fun (u : Unit) => [(aR, .inr (11, [.ref aG, .ref aP, .ref aH, .ref aY, .ref aT, .ref aS, .ref aF, .ref aX, .int (iI pr), .int (iI tk), .int (iI tol), .int (iI hou)])), (aG, .inr (4, [.ref aGn, .ref aGw, .ref aGs, .int (iI kn)]))]) u) t) A))) (XC := (fun A => (xX g A (fun (u : Unit) => True) (fun E : String => (E = "java/lang/IndexOutOfBoundsException" ∧ (¬ (0 ≤ rg ∧ rg < kn)))) (fun (u : Unit) => ([(aR, .inr (11, [.ref aG, .ref aP, .ref aH, .ref aY, .ref aT, .ref aS, .ref aF, .ref aX, .int (iI pr), .int (iI tk), .int (iI tol), .int (iI hou)])), (aG, .inr (4, [.ref aGn, .ref aGw, .ref aGs, .int (iI kn)]))] : va_W))))) (by decide) rfl (Nat.le_of_ble_eq_true rfl) ?_
  intro p e s m args below meth c A ls hx hb hr hml hown hts hlocks hout hC hP hD hS hA hl
  have hK := hC.1
  have hown : s.vm.findClass RX8 = some m.cls := hown
  have hin8 : ∀ w ∈ u_ws RX8 TX8 12, w ∈ wsX8_checkGround := by decide +kernel
  have hl : lv_has ls 2 [(0, .ref aR), (1, .int (iI rg))] := hl
  obtain ⟨H, hH⟩ : ∃ z, z = s.heap := ⟨_, rfl⟩
  obtain ⟨locs, hlo⟩ : ∃ z : List Loc, z = [] := ⟨_, rfl⟩
  obtain ⟨Q9, hQ9⟩ : ∃ z, z = vx_MQ below (va_Qv (fun (u : Unit) => (0 ≤ rg ∧ rg < kn) ∧ (True)) (fun u t => xE g A ((fun (u : Unit) => [(aR, .inr (11, [.ref aG, .ref aP, .ref aH, .ref aY, .ref aT, .ref aS, .ref aF, .ref aX, .int (iI pr), .int (iI tk), .int (iI tol), .int (iI hou)])), (aG, .inr (4, [.ref aGn, .ref aGw, .ref aGs, .int (iI kn)]))]) u) t) A) (xX g A (fun (u : Unit) => True) (fun E : String => (E = "java/lang/IndexOutOfBoundsException" ∧ (¬ (0 ≤ rg ∧ rg < kn)))) (fun (u : Unit) => ([(aR, .inr (11, [.ref aG, .ref aP, .ref aH, .ref aY, .ref aT, .ref aS, .ref aF, .ref aX, .int (iI pr), .int (iI tk), .int (iI tol), .int (iI hou)])), (aG, .inr (4, [.ref aGn, .ref aGw, .ref aGs, .int (iI kn)]))] : va_W))) args s 1 6 A := ⟨_, rfl⟩
  have hP : va_P (gD g) vwCl [(aR, .inr (11, [.ref aG, .ref aP, .ref aH, .ref aY, .ref aT, .ref aS, .ref aF, .ref aX, .int (iI pr), .int (iI tk), .int (iI tol), .int (iI hou)])), (aG, .inr (4, [.ref aGn, .ref aGw, .ref aGs, .int (iI kn)]))] H := by rw [hH]; exact hP
  have hS : va_S A s.heap H locs := by rw [hH, hlo]; exact hS
  have goal_ : W p l e { frames := 6, cells := 1, slots := 6, locals := 92 } s m args below meth c H locs 0 0 Q9 (F0 m 0 ls []) := by
    clear hH hlo
    refine lv_aload_n hx hb dX8_checkGround_0 rfl (lv_at hl 0 rfl) ?_
    refine va_get (D := gD g) (ci := 11) (v := .ref aG) (C := RX8) (T := TX8) (N := 12) hx hb hts hin8 hown hK hP 0 rfl rfl 0 (by decide) (hts (.fieldLink RX8 10 "TunnelRing" "ground" "LTunnelRing$Ground;") (List.mem_of_getElem? (i := 3) rfl)) (fun _ h9 => h9) rfl dX8_checkGround_1 ?_
    refine lv_iload_n hx hb dX8_checkGround_4 rfl (lv_at hl 1 rfl) ?_
    refine x_calli (S := Unit) (wc := [(aG, .inr (4, [.ref aGn, .ref aGw, .ref aGs, .int (iI kn)]))]) (wr := [(aR, .inr (11, [.ref aG, .ref aP, .ref aH, .ref aY, .ref aT, .ref aS, .ref aF, .ref aX, .int (iI pr), .int (iI tk), .int (iI tol), .int (iI hou)]))]) hC hP hD hS hA [1] [0] [0, 1] rfl rfl (fun hpre => va_runV (As := [.int (iI rg)]) (rest := []) ⟨hx, hb, hml, hown, hts⟩ (c_X1_isKnown l g H.size aG aGn aGw aGs kn rg (by first | (first | assumption | omega | exact bnd_up (by assumption) (by omega) (by omega)) | fail "q8") (by first | (first | assumption | omega | exact bnd_up (by assumption) (by omega) (by omega)) | fail "q8")) (cwV 1 hts gX8_checkGround_X1_isKnown rfl rfl rfl (by decide +kernel) ⟨Nat.le_of_ble_eq_true rfl, Nat.le_of_ble_eq_true rfl⟩) ⟨xB_blind, va_recv hK hP (ci := 4) (q0 := 1) rfl rfl, hpre _⟩ rfl rfl hl.1 rfl (lv_room (Nat.le_of_ble_eq_true rfl)) dX8_checkGround_5 ⟨Nat.le_of_ble_eq_true rfl, Nat.le_of_ble_eq_true rfl⟩) (fun (u : Unit) => [(aR, .inr (11, [.ref aG, .ref aP, .ref aH, .ref aY, .ref aT, .ref aS, .ref aF, .ref aX, .int (iI pr), .int (iI tk), .int (iI tol), .int (iI hou)])), (aG, .inr (4, [.ref aGn, .ref aGw, .ref aGs, .int (iI kn)]))]) rfl rfl (by decide) (fun _ => rfl) rfl (fun u v_1 H locs hv_1 pv_1 hP hD hS => ?_)
    have hP : va_P (gD g) vwCl [(aR, .inr (11, [.ref aG, .ref aP, .ref aH, .ref aY, .ref aT, .ref aS, .ref aF, .ref aX, .int (iI pr), .int (iI tk), .int (iI tol), .int (iI hou)])), (aG, .inr (4, [.ref aGn, .ref aGw, .ref aGs, .int (iI kn)]))] H := hP
    have hD : va_D A [(aR, .inr (11, [.ref aG, .ref aP, .ref aH, .ref aY, .ref aT, .ref aS, .ref aF, .ref aX, .int (iI pr), .int (iI tk), .int (iI tol), .int (iI hou)])), (aG, .inr (4, [.ref aGn, .ref aGw, .ref aGs, .int (iI kn)]))] := hD
    have hv_1 : v_1 = bI (0 ≤ rg ∧ rg < kn) := hv_1
    refine x_top hv_1 ?_
    refine x_ifb_ne (tgt := 22) (P := 0 ≤ rg ∧ rg < kn) hx hb dX8_checkGround_8 (by decide) (fun c_2 => ?_) (fun c_2 => ?_)
    · skip
      rw [hQ9]
      exact vx_ret (x_vret hx hb hr hlocks hP hD hS (S := Unit) (Φ := _) (W1 := _) dX8_checkGround_22 () ⟨(by
          first
          | (
             first | trivial | assumption | omega)
          | fail "q9"), trivial⟩ rfl (Nat.le_of_ble_eq_true rfl) (Nat.le_of_ble_eq_true rfl))
    · skip
      rw [hQ9]
      exact x_throwSW hx hb hflags hown (by decide +kernel) (by decide +kernel) (hts (.classLink RX8 322 "java/lang/IndexOutOfBoundsException") (List.mem_of_getElem? (i := 1) rfl)) (hts (.initialized "java/lang/IndexOutOfBoundsException") (List.mem_of_getElem? (i := 2) rfl)) (hC.2.2.2.2.2.1 _ (List.mem_of_getElem? (i := 14) rfl)) (vx_hat (B := [.castable "java/lang/IndexOutOfBoundsException" "java/lang/IndexOutOfBoundsException", .declares (Bundle.initS "java/lang/RuntimeException"), .declares (Bundle.initS "java/lang/Exception"), .declares (Bundle.initS "java/lang/Throwable")]) (fun w h => hts w (List.mem_cons_of_mem _ (List.mem_append_right _ h))) (by decide +kernel) (vx_c (va_Nw.use rfl (hC.2.2.2.2.2.2.2.2.2.2.1 "java/lang/IndexOutOfBoundsException" (List.mem_of_getElem? (i := 2) rfl))) (vx_c (va_Nw.use rfl (hC.2.2.2.2.2.2.2.2.2.2.2.1 "java/lang/RuntimeException" (List.mem_of_getElem? (i := 0) rfl))) (vx_c (va_Nw.use rfl (hC.2.2.2.2.2.2.2.2.2.2.2.1 "java/lang/Exception" (List.mem_of_getElem? (i := 1) rfl))) (vx_c (va_Nw.use rfl (hC.2.2.2.2.2.2.2.2.2.2.2.1 "java/lang/Throwable" (List.mem_of_getElem? (i := 2) rfl))) vx_n))))) (by decide +kernel) hC hP hD hS (hl.1.trans hml.symm) dX8_checkGround_11 dX8_checkGround_14 dX8_checkGround_15 dX8_checkGround_18 dX8_checkGround_21 hout (Nat.le_of_ble_eq_true rfl) (Nat.le_of_ble_eq_true rfl) (Nat.le_of_ble_eq_true rfl) (Nat.le_of_ble_eq_true rfl) hlocks () trivial ⟨rfl, (by
          first
          | (
             first | trivial | assumption | omega)
          | fail "q9")⟩ rfl (Nat.le_of_ble_eq_true rfl) (Nat.le_of_ble_eq_true rfl)
  rw [hH, hlo, hQ9] at goal_
  exact goal_

set_option maxHeartbeats 4000000 in
set_option maxRecDepth 100000 in
theorem c_X8_checkLaid (l : Launch) (hflags : l.stackTraces = false) (g : xg) (sz : Nat) (aR aG aP aH aY aT aS aF aX aTp aTt aTx aTy aE : Nat) (pr tk tol hou ld rg : Int) (hld : 0 ≤ ld ∧ ld ≤ 200) (hr_rg : iR rg) : vx_Met l yX8_checkLaid wsX8_checkLaid { frames := 6, cells := 1, slots := 6, locals := 92 } (va_Pc [.ref aR, .int (iI rg)] (xB g [(aR, .inr (11, [.ref aG, .ref aP, .ref aH, .ref aY, .ref aT, .ref aS, .ref aF, .ref aX, .int (iI pr), .int (iI tk), .int (iI tol), .int (iI hou)])), (aT, .inr (9, [.ref aTp, .ref aTt, .ref aTx, .ref aTy, .ref aE, .int (iI ld)]))] sz)) (va_Qv (fun (u : Unit) => (0 ≤ rg ∧ rg < ld) ∧ (True)) (fun u t => xE g (va_A [(aR, .inr (11, [.ref aG, .ref aP, .ref aH, .ref aY, .ref aT, .ref aS, .ref aF, .ref aX, .int (iI pr), .int (iI tk), .int (iI tol), .int (iI hou)])), (aT, .inr (9, [.ref aTp, .ref aTt, .ref aTx, .ref aTy, .ref aE, .int (iI ld)]))] sz) ((fun (u : Unit) => [(aR, .inr (11, [.ref aG, .ref aP, .ref aH, .ref aY, .ref aT, .ref aS, .ref aF, .ref aX, .int (iI pr), .int (iI tk), .int (iI tol), .int (iI hou)])), (aT, .inr (9, [.ref aTp, .ref aTt, .ref aTx, .ref aTy, .ref aE, .int (iI ld)]))]) u) t) (va_A [(aR, .inr (11, [.ref aG, .ref aP, .ref aH, .ref aY, .ref aT, .ref aS, .ref aF, .ref aX, .int (iI pr), .int (iI tk), .int (iI tol), .int (iI hou)])), (aT, .inr (9, [.ref aTp, .ref aTt, .ref aTx, .ref aTy, .ref aE, .int (iI ld)]))] sz)) (xX g (va_A [(aR, .inr (11, [.ref aG, .ref aP, .ref aH, .ref aY, .ref aT, .ref aS, .ref aF, .ref aX, .int (iI pr), .int (iI tk), .int (iI tol), .int (iI hou)])), (aT, .inr (9, [.ref aTp, .ref aTt, .ref aTx, .ref aTy, .ref aE, .int (iI ld)]))] sz) (fun (u : Unit) => True) (fun E : String => (E = "java/lang/IndexOutOfBoundsException" ∧ (¬ (0 ≤ rg ∧ rg < ld)))) (fun (u : Unit) => ([(aR, .inr (11, [.ref aG, .ref aP, .ref aH, .ref aY, .ref aT, .ref aS, .ref aF, .ref aX, .int (iI pr), .int (iI tk), .int (iI tol), .int (iI hou)])), (aT, .inr (9, [.ref aTp, .ref aTt, .ref aTx, .ref aTy, .ref aE, .int (iI ld)]))] : va_W))) 1 6 (va_A [(aR, .inr (11, [.ref aG, .ref aP, .ref aH, .ref aY, .ref aT, .ref aS, .ref aF, .ref aX, .int (iI pr), .int (iI tk), .int (iI tol), .int (iI hou)])), (aT, .inr (9, [.ref aTp, .ref aTt, .ref aTx, .ref aTy, .ref aE, .int (iI ld)]))] sz) := by
  refine x_enterX (y := yX8_checkLaid) (ws := wsX8_checkLaid) (g := g) (sz := sz) (av := [.ref aR, .int (iI rg)]) (WS := [(aR, .inr (11, [.ref aG, .ref aP, .ref aH, .ref aY, .ref aT, .ref aS, .ref aF, .ref aX, .int (iI pr), .int (iI tk), .int (iI tol), .int (iI hou)])), (aT, .inr (9, [.ref aTp, .ref aTt, .ref aTx, .ref aTy, .ref aE, .int (iI ld)]))]) (cc := cX8_checkLaid) (maxL := 2) (ret := none) (Qc := (fun A => (va_Qv (fun (u : Unit) => (0 ≤ rg ∧ rg < ld) ∧ (True)) (fun u t => xE g A ((fun (u : Unit) => [(aR, .inr (11, [.ref aG, .ref aP, .ref aH, .ref aY, .ref aT, .ref aS, .ref aF, .ref aX, .int (iI pr), .int (iI tk), .int (iI tol), .int (iI hou)])), (aT, .inr (9, [.ref aTp, .ref aTt, .ref aTx, .ref aTy, .ref aE, .int (iI ld)]))]) u) t) A))) (XC := (fun A => (xX g A (fun (u : Unit) => True) (fun E : String => (E = "java/lang/IndexOutOfBoundsException" ∧ (¬ (0 ≤ rg ∧ rg < ld)))) (fun (u : Unit) => ([(aR, .inr (11, [.ref aG, .ref aP, .ref aH, .ref aY, .ref aT, .ref aS, .ref aF, .ref aX, .int (iI pr), .int (iI tk), .int (iI tol), .int (iI hou)])), (aT, .inr (9, [.ref aTp, .ref aTt, .ref aTx, .ref aTy, .ref aE, .int (iI ld)]))] : va_W))))) (by decide) rfl (Nat.le_of_ble_eq_true rfl) ?_
  intro p e s m args below meth c A ls hx hb hr hml hown hts hlocks hout hC hP hD hS hA hl
  have hK := hC.1
  have hown : s.vm.findClass RX8 = some m.cls := hown
  have hin6 : ∀ w ∈ u_ws RX6 TX6 6, w ∈ wsX8_checkLaid := by decide +kernel
  have hin8 : ∀ w ∈ u_ws RX8 TX8 12, w ∈ wsX8_checkLaid := by decide +kernel
  have hl : lv_has ls 2 [(0, .ref aR), (1, .int (iI rg))] := hl
  obtain ⟨H, hH⟩ : ∃ z, z = s.heap := ⟨_, rfl⟩
  obtain ⟨locs, hlo⟩ : ∃ z : List Loc, z = [] := ⟨_, rfl⟩
  obtain ⟨Q9, hQ9⟩ : ∃ z, z = vx_MQ below (va_Qv (fun (u : Unit) => (0 ≤ rg ∧ rg < ld) ∧ (True)) (fun u t => xE g A ((fun (u : Unit) => [(aR, .inr (11, [.ref aG, .ref aP, .ref aH, .ref aY, .ref aT, .ref aS, .ref aF, .ref aX, .int (iI pr), .int (iI tk), .int (iI tol), .int (iI hou)])), (aT, .inr (9, [.ref aTp, .ref aTt, .ref aTx, .ref aTy, .ref aE, .int (iI ld)]))]) u) t) A) (xX g A (fun (u : Unit) => True) (fun E : String => (E = "java/lang/IndexOutOfBoundsException" ∧ (¬ (0 ≤ rg ∧ rg < ld)))) (fun (u : Unit) => ([(aR, .inr (11, [.ref aG, .ref aP, .ref aH, .ref aY, .ref aT, .ref aS, .ref aF, .ref aX, .int (iI pr), .int (iI tk), .int (iI tol), .int (iI hou)])), (aT, .inr (9, [.ref aTp, .ref aTt, .ref aTx, .ref aTy, .ref aE, .int (iI ld)]))] : va_W))) args s 1 6 A := ⟨_, rfl⟩
  have hP : va_P (gD g) vwCl [(aR, .inr (11, [.ref aG, .ref aP, .ref aH, .ref aY, .ref aT, .ref aS, .ref aF, .ref aX, .int (iI pr), .int (iI tk), .int (iI tol), .int (iI hou)])), (aT, .inr (9, [.ref aTp, .ref aTt, .ref aTx, .ref aTy, .ref aE, .int (iI ld)]))] H := by rw [hH]; exact hP
  have hS : va_S A s.heap H locs := by rw [hH, hlo]; exact hS
  have goal_ : W p l e { frames := 6, cells := 1, slots := 6, locals := 92 } s m args below meth c H locs 0 0 Q9 (F0 m 0 ls []) := by
    clear hH hlo
    refine lv_iload_n hx hb dX8_checkLaid_0 rfl (lv_at hl 1 rfl) ?_
    refine x_if_lt (tgt := 15) hx hb (by omega) dX8_checkLaid_1 (by decide) (fun c_1 => ?_) (fun c_1 => ?_)
    · skip
      rw [hQ9]
      exact x_throwSW hx hb hflags hown (by decide +kernel) (by decide +kernel) (hts (.classLink RX8 322 "java/lang/IndexOutOfBoundsException") (List.mem_of_getElem? (i := 1) rfl)) (hts (.initialized "java/lang/IndexOutOfBoundsException") (List.mem_of_getElem? (i := 2) rfl)) (hC.2.2.2.2.2.1 _ (List.mem_of_getElem? (i := 15) rfl)) (vx_hat (B := [.castable "java/lang/IndexOutOfBoundsException" "java/lang/IndexOutOfBoundsException", .declares (Bundle.initS "java/lang/RuntimeException"), .declares (Bundle.initS "java/lang/Exception"), .declares (Bundle.initS "java/lang/Throwable")]) (fun w h => hts w (List.mem_cons_of_mem _ (List.mem_append_right _ h))) (by decide +kernel) (vx_c (va_Nw.use rfl (hC.2.2.2.2.2.2.2.2.2.2.1 "java/lang/IndexOutOfBoundsException" (List.mem_of_getElem? (i := 2) rfl))) (vx_c (va_Nw.use rfl (hC.2.2.2.2.2.2.2.2.2.2.2.1 "java/lang/RuntimeException" (List.mem_of_getElem? (i := 0) rfl))) (vx_c (va_Nw.use rfl (hC.2.2.2.2.2.2.2.2.2.2.2.1 "java/lang/Exception" (List.mem_of_getElem? (i := 1) rfl))) (vx_c (va_Nw.use rfl (hC.2.2.2.2.2.2.2.2.2.2.2.1 "java/lang/Throwable" (List.mem_of_getElem? (i := 2) rfl))) vx_n))))) (by decide +kernel) hC hP hD hS (hl.1.trans hml.symm) dX8_checkLaid_15 dX8_checkLaid_18 dX8_checkLaid_19 dX8_checkLaid_22 dX8_checkLaid_25 hout (Nat.le_of_ble_eq_true rfl) (Nat.le_of_ble_eq_true rfl) (Nat.le_of_ble_eq_true rfl) (Nat.le_of_ble_eq_true rfl) hlocks () trivial ⟨rfl, (by
          first
          | (
             first | trivial | assumption | omega)
          | fail "q9")⟩ rfl (Nat.le_of_ble_eq_true rfl) (Nat.le_of_ble_eq_true rfl)
    · skip
      refine lv_iload_n hx hb dX8_checkLaid_4 rfl (lv_at hl 1 rfl) ?_
      refine lv_aload_n hx hb dX8_checkLaid_5 rfl (lv_at hl 0 rfl) ?_
      refine va_get (D := gD g) (ci := 11) (v := .ref aT) (C := RX8) (T := TX8) (N := 12) hx hb hts hin8 hown hK hP 0 rfl rfl 4 (by decide) (hts (.fieldLink RX8 40 "TunnelRing" "tube" "LTunnelRing$Tube;") (List.mem_of_getElem? (i := 3) rfl)) (fun _ h9 => h9) rfl dX8_checkLaid_6 ?_
      refine va_get (D := gD g) (ci := 9) (v := .int (iI ld)) (C := RX6) (T := TX6) (N := 6) hx hb hts hin6 hown hK hP 1 rfl rfl 5 (by decide) (hts (.fieldLink RX8 178 "TunnelRing$Tube" "laid" "I") (List.mem_of_getElem? (i := 4) rfl)) (fun _ h9 => h9) rfl dX8_checkLaid_9 ?_
      refine x_cmp_lt (tgt := 26) hx hb (by omega) (by omega) dX8_checkLaid_12 (by decide) (fun c_2 => ?_) (fun c_2 => ?_)
      · skip
        rw [hQ9]
        exact vx_ret (x_vret hx hb hr hlocks hP hD hS (S := Unit) (Φ := _) (W1 := _) dX8_checkLaid_26 () ⟨(by
            first
            | (
               first | trivial | assumption | omega)
            | fail "q9"), trivial⟩ rfl (Nat.le_of_ble_eq_true rfl) (Nat.le_of_ble_eq_true rfl))
      · skip
        rw [hQ9]
        exact x_throwSW hx hb hflags hown (by decide +kernel) (by decide +kernel) (hts (.classLink RX8 322 "java/lang/IndexOutOfBoundsException") (List.mem_of_getElem? (i := 1) rfl)) (hts (.initialized "java/lang/IndexOutOfBoundsException") (List.mem_of_getElem? (i := 2) rfl)) (hC.2.2.2.2.2.1 _ (List.mem_of_getElem? (i := 15) rfl)) (vx_hat (B := [.castable "java/lang/IndexOutOfBoundsException" "java/lang/IndexOutOfBoundsException", .declares (Bundle.initS "java/lang/RuntimeException"), .declares (Bundle.initS "java/lang/Exception"), .declares (Bundle.initS "java/lang/Throwable")]) (fun w h => hts w (List.mem_cons_of_mem _ (List.mem_append_right _ h))) (by decide +kernel) (vx_c (va_Nw.use rfl (hC.2.2.2.2.2.2.2.2.2.2.1 "java/lang/IndexOutOfBoundsException" (List.mem_of_getElem? (i := 2) rfl))) (vx_c (va_Nw.use rfl (hC.2.2.2.2.2.2.2.2.2.2.2.1 "java/lang/RuntimeException" (List.mem_of_getElem? (i := 0) rfl))) (vx_c (va_Nw.use rfl (hC.2.2.2.2.2.2.2.2.2.2.2.1 "java/lang/Exception" (List.mem_of_getElem? (i := 1) rfl))) (vx_c (va_Nw.use rfl (hC.2.2.2.2.2.2.2.2.2.2.2.1 "java/lang/Throwable" (List.mem_of_getElem? (i := 2) rfl))) vx_n))))) (by decide +kernel) hC hP hD hS (hl.1.trans hml.symm) dX8_checkLaid_15 dX8_checkLaid_18 dX8_checkLaid_19 dX8_checkLaid_22 dX8_checkLaid_25 hout (Nat.le_of_ble_eq_true rfl) (Nat.le_of_ble_eq_true rfl) (Nat.le_of_ble_eq_true rfl) (Nat.le_of_ble_eq_true rfl) hlocks () trivial ⟨rfl, (by
            first
            | (
               first | trivial | assumption | omega)
            | fail "q9")⟩ rfl (Nat.le_of_ble_eq_true rfl) (Nat.le_of_ble_eq_true rfl)
  rw [hH, hlo, hQ9] at goal_
  exact goal_

set_option maxHeartbeats 4000000 in
set_option maxRecDepth 100000 in
theorem c_X8_checkRings (l : Launch) (hflags : l.stackTraces = false) (g : xg) (sz : Nat) (aR aG aP aH aY aT aS aF aX aYh aYt aYc : Nat) (pr tk tol hou sta cnt : Int) (ht : Int → Int) (hsta : 0 ≤ sta ∧ sta ≤ 2) (hb_ht : bnd ht 0 12) (hr_cnt : iR cnt) : vx_Met l yX8_checkRings wsX8_checkRings { frames := 6, cells := 1, slots := 6, locals := 92 } (va_Pc [.ref aR, .int (iI sta), .int (iI cnt)] (xB g [(aR, .inr (11, [.ref aG, .ref aP, .ref aH, .ref aY, .ref aT, .ref aS, .ref aF, .ref aX, .int (iI pr), .int (iI tk), .int (iI tol), .int (iI hou)])), (aY, .inr (10, [.ref aYh, .ref aYt, .ref aYc])), (aYh, .inl (gI g, 3, .inl (ar ht)))] sz)) (va_Qv (fun (u : Unit) => (cnt ≤ ht sta) ∧ (True)) (fun u t => xE g (va_A [(aR, .inr (11, [.ref aG, .ref aP, .ref aH, .ref aY, .ref aT, .ref aS, .ref aF, .ref aX, .int (iI pr), .int (iI tk), .int (iI tol), .int (iI hou)])), (aY, .inr (10, [.ref aYh, .ref aYt, .ref aYc])), (aYh, .inl (gI g, 3, .inl (ar ht)))] sz) ((fun (u : Unit) => [(aR, .inr (11, [.ref aG, .ref aP, .ref aH, .ref aY, .ref aT, .ref aS, .ref aF, .ref aX, .int (iI pr), .int (iI tk), .int (iI tol), .int (iI hou)])), (aY, .inr (10, [.ref aYh, .ref aYt, .ref aYc])), (aYh, .inl (gI g, 3, .inl (ar ht)))]) u) t) (va_A [(aR, .inr (11, [.ref aG, .ref aP, .ref aH, .ref aY, .ref aT, .ref aS, .ref aF, .ref aX, .int (iI pr), .int (iI tk), .int (iI tol), .int (iI hou)])), (aY, .inr (10, [.ref aYh, .ref aYt, .ref aYc])), (aYh, .inl (gI g, 3, .inl (ar ht)))] sz)) (xX g (va_A [(aR, .inr (11, [.ref aG, .ref aP, .ref aH, .ref aY, .ref aT, .ref aS, .ref aF, .ref aX, .int (iI pr), .int (iI tk), .int (iI tol), .int (iI hou)])), (aY, .inr (10, [.ref aYh, .ref aYt, .ref aYc])), (aYh, .inl (gI g, 3, .inl (ar ht)))] sz) (fun (u : Unit) => True) (fun E : String => (E = "java/util/NoSuchElementException" ∧ (ht sta < cnt))) (fun (u : Unit) => ([(aR, .inr (11, [.ref aG, .ref aP, .ref aH, .ref aY, .ref aT, .ref aS, .ref aF, .ref aX, .int (iI pr), .int (iI tk), .int (iI tol), .int (iI hou)])), (aY, .inr (10, [.ref aYh, .ref aYt, .ref aYc])), (aYh, .inl (gI g, 3, .inl (ar ht)))] : va_W))) 1 6 (va_A [(aR, .inr (11, [.ref aG, .ref aP, .ref aH, .ref aY, .ref aT, .ref aS, .ref aF, .ref aX, .int (iI pr), .int (iI tk), .int (iI tol), .int (iI hou)])), (aY, .inr (10, [.ref aYh, .ref aYt, .ref aYc])), (aYh, .inl (gI g, 3, .inl (ar ht)))] sz) := by
  refine x_enterX (y := yX8_checkRings) (ws := wsX8_checkRings) (g := g) (sz := sz) (av := [.ref aR, .int (iI sta), .int (iI cnt)]) (WS := [(aR, .inr (11, [.ref aG, .ref aP, .ref aH, .ref aY, .ref aT, .ref aS, .ref aF, .ref aX, .int (iI pr), .int (iI tk), .int (iI tol), .int (iI hou)])), (aY, .inr (10, [.ref aYh, .ref aYt, .ref aYc])), (aYh, .inl (gI g, 3, .inl (ar ht)))]) (cc := cX8_checkRings) (maxL := 3) (ret := none) (Qc := (fun A => (va_Qv (fun (u : Unit) => (cnt ≤ ht sta) ∧ (True)) (fun u t => xE g A ((fun (u : Unit) => [(aR, .inr (11, [.ref aG, .ref aP, .ref aH, .ref aY, .ref aT, .ref aS, .ref aF, .ref aX, .int (iI pr), .int (iI tk), .int (iI tol), .int (iI hou)])), (aY, .inr (10, [.ref aYh, .ref aYt, .ref aYc])), (aYh, .inl (gI g, 3, .inl (ar ht)))]) u) t) A))) (XC := (fun A => (xX g A (fun (u : Unit) => True) (fun E : String => (E = "java/util/NoSuchElementException" ∧ (ht sta < cnt))) (fun (u : Unit) => ([(aR, .inr (11, [.ref aG, .ref aP, .ref aH, .ref aY, .ref aT, .ref aS, .ref aF, .ref aX, .int (iI pr), .int (iI tk), .int (iI tol), .int (iI hou)])), (aY, .inr (10, [.ref aYh, .ref aYt, .ref aYc])), (aYh, .inl (gI g, 3, .inl (ar ht)))] : va_W))))) (by decide) rfl (Nat.le_of_ble_eq_true rfl) ?_
  intro p e s m args below meth c A ls hx hb hr hml hown hts hlocks hout hC hP hD hS hA hl
  have hK := hC.1
  have hown : s.vm.findClass RX8 = some m.cls := hown
  have hin7 : ∀ w ∈ u_ws RX7 TX7 3, w ∈ wsX8_checkRings := by decide +kernel
  have hin8 : ∀ w ∈ u_ws RX8 TX8 12, w ∈ wsX8_checkRings := by decide +kernel
  have hl : lv_has ls 3 [(0, .ref aR), (1, .int (iI sta)), (2, .int (iI cnt))] := hl
  obtain ⟨H, hH⟩ : ∃ z, z = s.heap := ⟨_, rfl⟩
  obtain ⟨locs, hlo⟩ : ∃ z : List Loc, z = [] := ⟨_, rfl⟩
  obtain ⟨Q9, hQ9⟩ : ∃ z, z = vx_MQ below (va_Qv (fun (u : Unit) => (cnt ≤ ht sta) ∧ (True)) (fun u t => xE g A ((fun (u : Unit) => [(aR, .inr (11, [.ref aG, .ref aP, .ref aH, .ref aY, .ref aT, .ref aS, .ref aF, .ref aX, .int (iI pr), .int (iI tk), .int (iI tol), .int (iI hou)])), (aY, .inr (10, [.ref aYh, .ref aYt, .ref aYc])), (aYh, .inl (gI g, 3, .inl (ar ht)))]) u) t) A) (xX g A (fun (u : Unit) => True) (fun E : String => (E = "java/util/NoSuchElementException" ∧ (ht sta < cnt))) (fun (u : Unit) => ([(aR, .inr (11, [.ref aG, .ref aP, .ref aH, .ref aY, .ref aT, .ref aS, .ref aF, .ref aX, .int (iI pr), .int (iI tk), .int (iI tol), .int (iI hou)])), (aY, .inr (10, [.ref aYh, .ref aYt, .ref aYc])), (aYh, .inl (gI g, 3, .inl (ar ht)))] : va_W))) args s 1 6 A := ⟨_, rfl⟩
  have hP : va_P (gD g) vwCl [(aR, .inr (11, [.ref aG, .ref aP, .ref aH, .ref aY, .ref aT, .ref aS, .ref aF, .ref aX, .int (iI pr), .int (iI tk), .int (iI tol), .int (iI hou)])), (aY, .inr (10, [.ref aYh, .ref aYt, .ref aYc])), (aYh, .inl (gI g, 3, .inl (ar ht)))] H := by rw [hH]; exact hP
  have hS : va_S A s.heap H locs := by rw [hH, hlo]; exact hS
  have goal_ : W p l e { frames := 6, cells := 1, slots := 6, locals := 92 } s m args below meth c H locs 0 0 Q9 (F0 m 0 ls []) := by
    clear hH hlo
    refine lv_aload_n hx hb dX8_checkRings_0 rfl (lv_at hl 0 rfl) ?_
    refine va_get (D := gD g) (ci := 11) (v := .ref aY) (C := RX8) (T := TX8) (N := 12) hx hb hts hin8 hown hK hP 0 rfl rfl 3 (by decide) (hts (.fieldLink RX8 33 "TunnelRing" "yard" "LTunnelRing$Yard;") (List.mem_of_getElem? (i := 3) rfl)) (fun _ h9 => h9) rfl dX8_checkRings_1 ?_
    refine va_get (D := gD g) (ci := 10) (v := .ref aYh) (C := RX7) (T := TX7) (N := 3) hx hb hts hin7 hown hK hP 1 rfl rfl 0 (by decide) (hts (.fieldLink RX8 138 "TunnelRing$Yard" "height" "[I") (List.mem_of_getElem? (i := 4) rfl)) (fun _ h9 => h9) rfl dX8_checkRings_4 ?_
    refine lv_iload_n hx hb dX8_checkRings_7 rfl (lv_at hl 1 rfl) ?_
    refine x_iald hx hb hK hP 2 0 rfl rfl (by omega) (by omega) (Nat.le_of_ble_eq_true rfl) dX8_checkRings_8 (fun v_1 hv_1 => ?_)
    have bv_1 : 0 ≤ v_1 ∧ v_1 ≤ 12 := by rw [hv_1]; exact hb_ht _
    refine lv_iload_n hx hb dX8_checkRings_9 rfl (lv_at hl 2 rfl) ?_
    refine x_cmp_ge (tgt := 24) hx hb (by omega) (by omega) dX8_checkRings_10 (by decide) (fun c_2 => ?_) (fun c_2 => ?_)
    · skip
      rw [hQ9]
      exact vx_ret (x_vret hx hb hr hlocks hP hD hS (S := Unit) (Φ := _) (W1 := _) dX8_checkRings_24 () ⟨(by
          first
          | (
             first | trivial | assumption | omega)
          | fail "q9"), trivial⟩ rfl (Nat.le_of_ble_eq_true rfl) (Nat.le_of_ble_eq_true rfl))
    · skip
      rw [hQ9]
      exact x_throwNW hx hb hflags hown (by decide +kernel) (by decide +kernel) (hts (.classLink RX8 142 "java/util/NoSuchElementException") (List.mem_of_getElem? (i := 1) rfl)) (hts (.initialized "java/util/NoSuchElementException") (List.mem_of_getElem? (i := 2) rfl)) (hC.2.2.2.2.2.1 _ (List.mem_of_getElem? (i := 16) rfl)) (vx_hat (B := [.castable "java/util/NoSuchElementException" "java/util/NoSuchElementException", .declares (Bundle.initS "java/lang/RuntimeException"), .declares (Bundle.initS "java/lang/Exception"), .declares (Bundle.initS "java/lang/Throwable")]) (fun w h => hts w (List.mem_cons_of_mem _ (List.mem_append_right _ h))) (by decide +kernel) (vx_c (va_Nw.use rfl (hC.2.2.2.2.2.2.2.2.2.2.1 "java/util/NoSuchElementException" (List.mem_of_getElem? (i := 3) rfl))) (vx_c (va_Nw.use rfl (hC.2.2.2.2.2.2.2.2.2.2.2.1 "java/lang/RuntimeException" (List.mem_of_getElem? (i := 0) rfl))) (vx_c (va_Nw.use rfl (hC.2.2.2.2.2.2.2.2.2.2.2.1 "java/lang/Exception" (List.mem_of_getElem? (i := 1) rfl))) (vx_c (va_Nw.use rfl (hC.2.2.2.2.2.2.2.2.2.2.2.1 "java/lang/Throwable" (List.mem_of_getElem? (i := 2) rfl))) vx_n))))) (by decide +kernel) hC hP hD hS (hl.1.trans hml.symm) dX8_checkRings_13 dX8_checkRings_16 dX8_checkRings_17 dX8_checkRings_20 dX8_checkRings_23 hout (Nat.le_of_ble_eq_true rfl) (Nat.le_of_ble_eq_true rfl) (Nat.le_of_ble_eq_true rfl) (Nat.le_of_ble_eq_true rfl) hlocks () trivial ⟨rfl, (by
          first
          | (
             first | trivial | assumption | omega)
          | fail "q9")⟩ rfl (Nat.le_of_ble_eq_true rfl) (Nat.le_of_ble_eq_true rfl)
  rw [hH, hlo, hQ9] at goal_
  exact goal_

set_option maxHeartbeats 4000000 in
set_option maxRecDepth 100000 in
theorem c_X8_fits (l : Launch) (g : xg) (sz : Nat) (be po : Int) (hbe : -1 ≤ be ∧ be ≤ 7) (hpo : 0 ≤ po ∧ po ≤ 7) : Met l yX8_fits wsX8_fits { frames := 1, cells := 0, slots := 0, locals := 22 } (va_Pc [.int (iI be), .int (iI po)] (xB g [] sz)) (va_Qi (fun r u => r = iI ((fun (u : Unit) => bI (fitP be po)) u) ∧ (fun (u : Unit) => True) u) (fun u t => xE g (va_A [] sz) ((fun (u : Unit) => []) u) t) (va_A [] sz)) 0 0 (va_A [] sz) := by
  refine x_enter (y := yX8_fits) (ws := wsX8_fits) (g := g) (sz := sz) (av := [.int (iI be), .int (iI po)]) (WS := []) (cc := cX8_fits) (maxL := 2) (ret := some .boolean) (Qc := (fun A => (va_Qi (fun r u => r = iI ((fun (u : Unit) => bI (fitP be po)) u) ∧ (fun (u : Unit) => True) u) (fun u t => xE g A ((fun (u : Unit) => []) u) t) A))) (by decide) rfl (Nat.le_of_ble_eq_true rfl) ?_
  intro p e s m args below meth c A ls hx hb hr hml hown hts hlocks hname hC hP hD hS hA hl
  have hK := hC.1
  have hown : s.vm.findClass RX8 = some m.cls := hown
  have hl : lv_has ls 2 [(0, .int (iI be)), (1, .int (iI po))] := hl
  obtain ⟨H, hH⟩ : ∃ z, z = s.heap := ⟨_, rfl⟩
  obtain ⟨locs, hlo⟩ : ∃ z : List Loc, z = [] := ⟨_, rfl⟩
  obtain ⟨Q9, hQ9⟩ : ∃ z, z = MQ below (va_Qi (fun r u => r = iI ((fun (u : Unit) => bI (fitP be po)) u) ∧ (fun (u : Unit) => True) u) (fun u t => xE g A ((fun (u : Unit) => []) u) t) A) args s 0 0 A := ⟨_, rfl⟩
  have hP : va_P (gD g) vwCl [] H := by rw [hH]; exact hP
  have hS : va_S A s.heap H locs := by rw [hH, hlo]; exact hS
  have goal_ : W p l e { frames := 1, cells := 0, slots := 0, locals := 22 } s m args below meth c H locs 0 0 Q9 (F0 m 0 ls []) := by
    clear hH hlo
    refine lv_iload_n hx hb dX8_fits_0 rfl (lv_at hl 0 rfl) ?_
    refine x_iconst hx hb dX8_fits_1 ?_
    refine x_cmp_eq (tgt := 20) hx hb (by omega) (by omega) dX8_fits_2 (by decide) (fun c_1 => ?_) (fun c_1 => ?_)
    · skip
      refine x_iconst hx hb dX8_fits_20 ?_
      refine lv_goto (tgt := 25) hx hb dX8_fits_21 (by decide) ?_
      rw [hQ9]
      exact x_iret hx hb hr hlocks hP hD hS (S := Unit) (by decide) dX8_fits_25 () (bI_t (by omega)).symm trivial rfl (Nat.le_of_ble_eq_true rfl) (Nat.le_of_ble_eq_true rfl)
    · skip
      refine lv_iload_n hx hb dX8_fits_5 rfl (lv_at hl 1 rfl) ?_
      refine lv_iload_n hx hb dX8_fits_6 rfl (lv_at hl 0 rfl) ?_
      refine x_cmp_eq (tgt := 24) hx hb (by omega) (by omega) dX8_fits_7 (by decide) (fun c_2 => ?_) (fun c_2 => ?_)
      · skip
        refine x_iconst hx hb dX8_fits_24 ?_
        rw [hQ9]
        exact x_iret hx hb hr hlocks hP hD hS (S := Unit) (by decide) dX8_fits_25 () (bI_f (by omega)).symm trivial rfl (Nat.le_of_ble_eq_true rfl) (Nat.le_of_ble_eq_true rfl)
      · skip
        refine lv_iload_n hx hb dX8_fits_10 rfl (lv_at hl 1 rfl) ?_
        refine lv_iload_n hx hb dX8_fits_11 rfl (lv_at hl 0 rfl) ?_
        refine x_isub hx hb dX8_fits_12 ?_
        refine x_abs hx hb (hml.trans hl.1.symm) hown (hts (.methodLink RX8 245 Lib.Math.abs.name) (List.mem_of_getElem? (i := 1) rfl)) (hts (.static Lib.Math.abs.name) (List.mem_of_getElem? (i := 2) rfl)) (hts (.initialized "java/lang/Math") (List.mem_of_getElem? (i := 3) rfl)) (hts (.code Lib.Math.abs.name Lib.Math.abs.code 1 (some .int)) (List.mem_of_getElem? (i := 4) rfl)) (Nat.le_of_ble_eq_true rfl) (Nat.le_of_ble_eq_true rfl) (Nat.le_of_ble_eq_true rfl) (Nat.le_of_ble_eq_true rfl) (by omega) dX8_fits_13 (fun v_3 hv_3 => ?_)
        have bv_3 := aI_r (po - be) hv_3
        refine x_iconst hx hb dX8_fits_16 ?_
        refine x_cmp_eq (tgt := 24) hx hb (by omega) (by omega) dX8_fits_17 (by decide) (fun c_4 => ?_) (fun c_4 => ?_)
        · skip
          refine x_iconst hx hb dX8_fits_24 ?_
          rw [hQ9]
          exact x_iret hx hb hr hlocks hP hD hS (S := Unit) (by decide) dX8_fits_25 () (bI_f (by omega)).symm trivial rfl (Nat.le_of_ble_eq_true rfl) (Nat.le_of_ble_eq_true rfl)
        · skip
          refine x_iconst hx hb dX8_fits_20 ?_
          refine lv_goto (tgt := 25) hx hb dX8_fits_21 (by decide) ?_
          rw [hQ9]
          exact x_iret hx hb hr hlocks hP hD hS (S := Unit) (by decide) dX8_fits_25 () (bI_t (by omega)).symm trivial rfl (Nat.le_of_ble_eq_true rfl) (Nat.le_of_ble_eq_true rfl)
  rw [hH, hlo, hQ9] at goal_
  exact goal_

set_option maxHeartbeats 4000000 in
set_option maxRecDepth 100000 in
theorem c_X8_addGround (l : Launch) (hflags : l.stackTraces = false) (g : xg) (sz : Nat) (aR aG aP aH aY aT aS aF aX aGn aGw aGs : Nat) (pr tk tol hou kn rgs nn nw : Int) (nd wk : Int → Int) (hkn : 0 ≤ kn ∧ kn ≤ 200) (hr_rgs : iR rgs) (hr_nn : iR nn) (hr_nw : iR nw) : vx_Met l yX8_addGround wsX8_addGround { frames := 7, cells := 4, slots := 24, locals := 114 } (va_Pc [.ref aR, .int (iI rgs), .int (iI nn), .int (iI nw)] (xB g [(aR, .inr (11, [.ref aG, .ref aP, .ref aH, .ref aY, .ref aT, .ref aS, .ref aF, .ref aX, .int (iI pr), .int (iI tk), .int (iI tol), .int (iI hou)])), (aG, .inr (4, [.ref aGn, .ref aGw, .ref aGs, .int (iI kn)])), (aGn, .inl (gI g, 200, .inl (ar nd))), (aGw, .inl (gI g, 200, .inl (ar wk)))] sz)) (va_Qi (fun r u => r = iI ((fun (u : Unit) => kn + rgs) u) ∧ (fun (u : Unit) => (agT kn rgs nn nw = 0) ∧ (True)) u) (fun u t => xE g (va_A [(aR, .inr (11, [.ref aG, .ref aP, .ref aH, .ref aY, .ref aT, .ref aS, .ref aF, .ref aX, .int (iI pr), .int (iI tk), .int (iI tol), .int (iI hou)])), (aG, .inr (4, [.ref aGn, .ref aGw, .ref aGs, .int (iI kn)])), (aGn, .inl (gI g, 200, .inl (ar nd))), (aGw, .inl (gI g, 200, .inl (ar wk)))] sz) ((fun (u : Unit) => [(aR, .inr (11, [.ref aG, .ref aP, .ref aH, .ref aY, .ref aT, .ref aS, .ref aF, .ref aX, .int (iI pr), .int (iI tk), .int (iI tol), .int (iI hou)])), (aG, .inr (4, [.ref aGn, .ref aGw, .ref aGs, .int (iI (kn + rgs))])), (aGn, .inl (gI g, 200, .inl (ar (fil nd kn (kn + rgs) nn)))), (aGw, .inl (gI g, 200, .inl (ar (fil wk kn (kn + rgs) nw))))]) u) t) (va_A [(aR, .inr (11, [.ref aG, .ref aP, .ref aH, .ref aY, .ref aT, .ref aS, .ref aF, .ref aX, .int (iI pr), .int (iI tk), .int (iI tol), .int (iI hou)])), (aG, .inr (4, [.ref aGn, .ref aGw, .ref aGs, .int (iI kn)])), (aGn, .inl (gI g, 200, .inl (ar nd))), (aGw, .inl (gI g, 200, .inl (ar wk)))] sz)) (xX g (va_A [(aR, .inr (11, [.ref aG, .ref aP, .ref aH, .ref aY, .ref aT, .ref aS, .ref aF, .ref aX, .int (iI pr), .int (iI tk), .int (iI tol), .int (iI hou)])), (aG, .inr (4, [.ref aGn, .ref aGw, .ref aGs, .int (iI kn)])), (aGn, .inl (gI g, 200, .inl (ar nd))), (aGw, .inl (gI g, 200, .inl (ar wk)))] sz) (fun (u : Unit) => True) (fun E : String => (E = "java/lang/IllegalArgumentException" ∧ (agT kn rgs nn nw = 1)) ∨ (E = "java/lang/IllegalStateException" ∧ (agT kn rgs nn nw = 2))) (fun (u : Unit) => ([(aR, .inr (11, [.ref aG, .ref aP, .ref aH, .ref aY, .ref aT, .ref aS, .ref aF, .ref aX, .int (iI pr), .int (iI tk), .int (iI tol), .int (iI hou)])), (aG, .inr (4, [.ref aGn, .ref aGw, .ref aGs, .int (iI kn)])), (aGn, .inl (gI g, 200, .inl (ar nd))), (aGw, .inl (gI g, 200, .inl (ar wk)))] : va_W))) 4 24 (va_A [(aR, .inr (11, [.ref aG, .ref aP, .ref aH, .ref aY, .ref aT, .ref aS, .ref aF, .ref aX, .int (iI pr), .int (iI tk), .int (iI tol), .int (iI hou)])), (aG, .inr (4, [.ref aGn, .ref aGw, .ref aGs, .int (iI kn)])), (aGn, .inl (gI g, 200, .inl (ar nd))), (aGw, .inl (gI g, 200, .inl (ar wk)))] sz) := by
  refine x_enterX (y := yX8_addGround) (ws := wsX8_addGround) (g := g) (sz := sz) (av := [.ref aR, .int (iI rgs), .int (iI nn), .int (iI nw)]) (WS := [(aR, .inr (11, [.ref aG, .ref aP, .ref aH, .ref aY, .ref aT, .ref aS, .ref aF, .ref aX, .int (iI pr), .int (iI tk), .int (iI tol), .int (iI hou)])), (aG, .inr (4, [.ref aGn, .ref aGw, .ref aGs, .int (iI kn)])), (aGn, .inl (gI g, 200, .inl (ar nd))), (aGw, .inl (gI g, 200, .inl (ar wk)))]) (cc := cX8_addGround) (maxL := 4) (ret := some .int) (Qc := (fun A => (va_Qi (fun r u => r = iI ((fun (u : Unit) => kn + rgs) u) ∧ (fun (u : Unit) => (agT kn rgs nn nw = 0) ∧ (True)) u) (fun u t => xE g A ((fun (u : Unit) => [(aR, .inr (11, [.ref aG, .ref aP, .ref aH, .ref aY, .ref aT, .ref aS, .ref aF, .ref aX, .int (iI pr), .int (iI tk), .int (iI tol), .int (iI hou)])), (aG, .inr (4, [.ref aGn, .ref aGw, .ref aGs, .int (iI (kn + rgs))])), (aGn, .inl (gI g, 200, .inl (ar (fil nd kn (kn + rgs) nn)))), (aGw, .inl (gI g, 200, .inl (ar (fil wk kn (kn + rgs) nw))))]) u) t) A))) (XC := (fun A => (xX g A (fun (u : Unit) => True) (fun E : String => (E = "java/lang/IllegalArgumentException" ∧ (agT kn rgs nn nw = 1)) ∨ (E = "java/lang/IllegalStateException" ∧ (agT kn rgs nn nw = 2))) (fun (u : Unit) => ([(aR, .inr (11, [.ref aG, .ref aP, .ref aH, .ref aY, .ref aT, .ref aS, .ref aF, .ref aX, .int (iI pr), .int (iI tk), .int (iI tol), .int (iI hou)])), (aG, .inr (4, [.ref aGn, .ref aGw, .ref aGs, .int (iI kn)])), (aGn, .inl (gI g, 200, .inl (ar nd))), (aGw, .inl (gI g, 200, .inl (ar wk)))] : va_W))))) (by decide) rfl (Nat.le_of_ble_eq_true rfl) ?_
  intro p e s m args below meth c A ls hx hb hr hml hown hts hlocks hout hC hP hD hS hA hl
  have hK := hC.1
  have hown : s.vm.findClass RX8 = some m.cls := hown
  have hin1 : ∀ w ∈ u_ws RX1 TX1 4, w ∈ wsX8_addGround := by decide +kernel
  have hin8 : ∀ w ∈ u_ws RX8 TX8 12, w ∈ wsX8_addGround := by decide +kernel
  have hl : lv_has ls 4 [(0, .ref aR), (1, .int (iI rgs)), (2, .int (iI nn)), (3, .int (iI nw))] := hl
  obtain ⟨H, hH⟩ : ∃ z, z = s.heap := ⟨_, rfl⟩
  obtain ⟨locs, hlo⟩ : ∃ z : List Loc, z = [] := ⟨_, rfl⟩
  obtain ⟨Q9, hQ9⟩ : ∃ z, z = vx_MQ below (va_Qi (fun r u => r = iI ((fun (u : Unit) => kn + rgs) u) ∧ (fun (u : Unit) => (agT kn rgs nn nw = 0) ∧ (True)) u) (fun u t => xE g A ((fun (u : Unit) => [(aR, .inr (11, [.ref aG, .ref aP, .ref aH, .ref aY, .ref aT, .ref aS, .ref aF, .ref aX, .int (iI pr), .int (iI tk), .int (iI tol), .int (iI hou)])), (aG, .inr (4, [.ref aGn, .ref aGw, .ref aGs, .int (iI (kn + rgs))])), (aGn, .inl (gI g, 200, .inl (ar (fil nd kn (kn + rgs) nn)))), (aGw, .inl (gI g, 200, .inl (ar (fil wk kn (kn + rgs) nw))))]) u) t) A) (xX g A (fun (u : Unit) => True) (fun E : String => (E = "java/lang/IllegalArgumentException" ∧ (agT kn rgs nn nw = 1)) ∨ (E = "java/lang/IllegalStateException" ∧ (agT kn rgs nn nw = 2))) (fun (u : Unit) => ([(aR, .inr (11, [.ref aG, .ref aP, .ref aH, .ref aY, .ref aT, .ref aS, .ref aF, .ref aX, .int (iI pr), .int (iI tk), .int (iI tol), .int (iI hou)])), (aG, .inr (4, [.ref aGn, .ref aGw, .ref aGs, .int (iI kn)])), (aGn, .inl (gI g, 200, .inl (ar nd))), (aGw, .inl (gI g, 200, .inl (ar wk)))] : va_W))) args s 4 24 A := ⟨_, rfl⟩
  have hP : va_P (gD g) vwCl [(aR, .inr (11, [.ref aG, .ref aP, .ref aH, .ref aY, .ref aT, .ref aS, .ref aF, .ref aX, .int (iI pr), .int (iI tk), .int (iI tol), .int (iI hou)])), (aG, .inr (4, [.ref aGn, .ref aGw, .ref aGs, .int (iI kn)])), (aGn, .inl (gI g, 200, .inl (ar nd))), (aGw, .inl (gI g, 200, .inl (ar wk)))] H := by rw [hH]; exact hP
  have hS : va_S A s.heap H locs := by rw [hH, hlo]; exact hS
  have goal_ : W p l e { frames := 7, cells := 4, slots := 24, locals := 114 } s m args below meth c H locs 0 0 Q9 (F0 m 0 ls []) := by
    clear hH hlo
    refine lv_iload_n hx hb dX8_addGround_0 rfl (lv_at hl 1 rfl) ?_
    refine x_iconst hx hb dX8_addGround_1 ?_
    refine x_bipush hx hb dX8_addGround_2 (by decide) ?_
    refine x_callvX (S := Unit) (SX := Unit) (wc := []) (wr := [(aR, .inr (11, [.ref aG, .ref aP, .ref aH, .ref aY, .ref aT, .ref aS, .ref aF, .ref aX, .int (iI pr), .int (iI tk), .int (iI tol), .int (iI hou)])), (aG, .inr (4, [.ref aGn, .ref aGw, .ref aGs, .int (iI kn)])), (aGn, .inl (gI g, 200, .inl (ar nd))), (aGw, .inl (gI g, 200, .inl (ar wk)))]) hC hP hD hS hA [] [0, 1, 2, 3] [0, 1, 2, 3] rfl rfl (fun hpre => vx_runS (As := [.int (iI rgs), .int (iI 1), .int (iI 50)]) (rest := []) ⟨hx, hb, hml, hown, hts⟩ (c_X8_checkRange l hflags g H.size rgs 1 50 (by first | (first | assumption | omega | exact bnd_up (by assumption) (by omega) (by omega)) | fail "q8") (by first | (first | assumption | omega | exact bnd_up (by assumption) (by omega) (by omega)) | fail "q8") (by first | (first | assumption | omega | exact bnd_up (by assumption) (by omega) (by omega)) | fail "q8")) (va_cwS 3 hts gX8_addGround_X8_checkRange rfl rfl rfl (by decide +kernel) ⟨Nat.le_of_ble_eq_true rfl, Nat.le_of_ble_eq_true rfl⟩) ⟨xB_blind, hpre _⟩ rfl rfl hl.1 rfl (lv_room (Nat.le_of_ble_eq_true rfl)) dX8_addGround_4 ⟨Nat.le_of_ble_eq_true rfl, Nat.le_of_ble_eq_true rfl⟩) (fun (u : Unit) => [(aR, .inr (11, [.ref aG, .ref aP, .ref aH, .ref aY, .ref aT, .ref aS, .ref aF, .ref aX, .int (iI pr), .int (iI tk), .int (iI tol), .int (iI hou)])), (aG, .inr (4, [.ref aGn, .ref aGw, .ref aGs, .int (iI kn)])), (aGn, .inl (gI g, 200, .inl (ar nd))), (aGw, .inl (gI g, 200, .inl (ar wk)))]) (fun (u : Unit) => ([(aR, .inr (11, [.ref aG, .ref aP, .ref aH, .ref aY, .ref aT, .ref aS, .ref aF, .ref aX, .int (iI pr), .int (iI tk), .int (iI tol), .int (iI hou)])), (aG, .inr (4, [.ref aGn, .ref aGw, .ref aGs, .int (iI kn)])), (aGn, .inl (gI g, 200, .inl (ar nd))), (aGw, .inl (gI g, 200, .inl (ar wk)))] : va_W)) rfl rfl (by decide) (fun _ => rfl) (fun _ => rfl) rfl (fun E ce q9 u H locs hXP hPX hP hD hS hcell hv9 hcl => ?_) (fun u H locs hv_1 hP hD hS => ?_)
    · skip
      have hP : va_P (gD g) vwCl [(aR, .inr (11, [.ref aG, .ref aP, .ref aH, .ref aY, .ref aT, .ref aS, .ref aF, .ref aX, .int (iI pr), .int (iI tk), .int (iI tol), .int (iI hou)])), (aG, .inr (4, [.ref aGn, .ref aGw, .ref aGs, .int (iI kn)])), (aGn, .inl (gI g, 200, .inl (ar nd))), (aGw, .inl (gI g, 200, .inl (ar wk)))] H := hP
      have hD : va_D A [(aR, .inr (11, [.ref aG, .ref aP, .ref aH, .ref aY, .ref aT, .ref aS, .ref aF, .ref aX, .int (iI pr), .int (iI tk), .int (iI tol), .int (iI hou)])), (aG, .inr (4, [.ref aGn, .ref aGw, .ref aGs, .int (iI kn)])), (aGn, .inl (gI g, 200, .inl (ar nd))), (aGw, .inl (gI g, 200, .inl (ar wk)))] := hD
      obtain ⟨hE, hp⟩ := hPX
      have hp : ¬ (1 ≤ rgs ∧ rgs ≤ 50) := hp
      subst hE
      rw [hQ9]
      exact x_out hout hlocks hP hD hS hcell hv9 hcl () trivial (Or.inl ⟨rfl, (by
          first
          | (
             unfold agT
             omega)
          | fail "q9")⟩) rfl (Nat.le_of_ble_eq_true rfl) (Nat.le_of_ble_eq_true rfl)
    · skip
      have hP : va_P (gD g) vwCl [(aR, .inr (11, [.ref aG, .ref aP, .ref aH, .ref aY, .ref aT, .ref aS, .ref aF, .ref aX, .int (iI pr), .int (iI tk), .int (iI tol), .int (iI hou)])), (aG, .inr (4, [.ref aGn, .ref aGw, .ref aGs, .int (iI kn)])), (aGn, .inl (gI g, 200, .inl (ar nd))), (aGw, .inl (gI g, 200, .inl (ar wk)))] H := hP
      have hD : va_D A [(aR, .inr (11, [.ref aG, .ref aP, .ref aH, .ref aY, .ref aT, .ref aS, .ref aF, .ref aX, .int (iI pr), .int (iI tk), .int (iI tol), .int (iI hou)])), (aG, .inr (4, [.ref aGn, .ref aGw, .ref aGs, .int (iI kn)])), (aGn, .inl (gI g, 200, .inl (ar nd))), (aGw, .inl (gI g, 200, .inl (ar wk)))] := hD
      obtain ⟨tv_1, pv_1⟩ := hv_1
      have tv_1 : 1 ≤ rgs ∧ rgs ≤ 50 := tv_1
      refine lv_iload_n hx hb dX8_addGround_7 rfl (lv_at hl 2 rfl) ?_
      refine x_iconst hx hb dX8_addGround_8 ?_
      refine x_bipush hx hb dX8_addGround_9 (by decide) ?_
      refine x_callvX (S := Unit) (SX := Unit) (wc := []) (wr := [(aR, .inr (11, [.ref aG, .ref aP, .ref aH, .ref aY, .ref aT, .ref aS, .ref aF, .ref aX, .int (iI pr), .int (iI tk), .int (iI tol), .int (iI hou)])), (aG, .inr (4, [.ref aGn, .ref aGw, .ref aGs, .int (iI kn)])), (aGn, .inl (gI g, 200, .inl (ar nd))), (aGw, .inl (gI g, 200, .inl (ar wk)))]) hC hP hD hS hA [] [0, 1, 2, 3] [0, 1, 2, 3] rfl rfl (fun hpre => vx_runS (As := [.int (iI nn), .int (iI 0), .int (iI 100)]) (rest := []) ⟨hx, hb, hml, hown, hts⟩ (c_X8_checkRange l hflags g H.size nn 0 100 (by first | (first | assumption | omega | exact bnd_up (by assumption) (by omega) (by omega)) | fail "q8") (by first | (first | assumption | omega | exact bnd_up (by assumption) (by omega) (by omega)) | fail "q8") (by first | (first | assumption | omega | exact bnd_up (by assumption) (by omega) (by omega)) | fail "q8")) (va_cwS 3 hts gX8_addGround_X8_checkRange rfl rfl rfl (by decide +kernel) ⟨Nat.le_of_ble_eq_true rfl, Nat.le_of_ble_eq_true rfl⟩) ⟨xB_blind, hpre _⟩ rfl rfl hl.1 rfl (lv_room (Nat.le_of_ble_eq_true rfl)) dX8_addGround_11 ⟨Nat.le_of_ble_eq_true rfl, Nat.le_of_ble_eq_true rfl⟩) (fun (u : Unit) => [(aR, .inr (11, [.ref aG, .ref aP, .ref aH, .ref aY, .ref aT, .ref aS, .ref aF, .ref aX, .int (iI pr), .int (iI tk), .int (iI tol), .int (iI hou)])), (aG, .inr (4, [.ref aGn, .ref aGw, .ref aGs, .int (iI kn)])), (aGn, .inl (gI g, 200, .inl (ar nd))), (aGw, .inl (gI g, 200, .inl (ar wk)))]) (fun (u : Unit) => ([(aR, .inr (11, [.ref aG, .ref aP, .ref aH, .ref aY, .ref aT, .ref aS, .ref aF, .ref aX, .int (iI pr), .int (iI tk), .int (iI tol), .int (iI hou)])), (aG, .inr (4, [.ref aGn, .ref aGw, .ref aGs, .int (iI kn)])), (aGn, .inl (gI g, 200, .inl (ar nd))), (aGw, .inl (gI g, 200, .inl (ar wk)))] : va_W)) rfl rfl (by decide) (fun _ => rfl) (fun _ => rfl) rfl (fun E ce q9 u H locs hXP hPX hP hD hS hcell hv9 hcl => ?_) (fun u H locs hv_2 hP hD hS => ?_)
      · skip
        have hP : va_P (gD g) vwCl [(aR, .inr (11, [.ref aG, .ref aP, .ref aH, .ref aY, .ref aT, .ref aS, .ref aF, .ref aX, .int (iI pr), .int (iI tk), .int (iI tol), .int (iI hou)])), (aG, .inr (4, [.ref aGn, .ref aGw, .ref aGs, .int (iI kn)])), (aGn, .inl (gI g, 200, .inl (ar nd))), (aGw, .inl (gI g, 200, .inl (ar wk)))] H := hP
        have hD : va_D A [(aR, .inr (11, [.ref aG, .ref aP, .ref aH, .ref aY, .ref aT, .ref aS, .ref aF, .ref aX, .int (iI pr), .int (iI tk), .int (iI tol), .int (iI hou)])), (aG, .inr (4, [.ref aGn, .ref aGw, .ref aGs, .int (iI kn)])), (aGn, .inl (gI g, 200, .inl (ar nd))), (aGw, .inl (gI g, 200, .inl (ar wk)))] := hD
        obtain ⟨hE, hp⟩ := hPX
        have hp : ¬ (0 ≤ nn ∧ nn ≤ 100) := hp
        subst hE
        rw [hQ9]
        exact x_out hout hlocks hP hD hS hcell hv9 hcl () trivial (Or.inl ⟨rfl, (by
            first
            | (
               unfold agT
               omega)
            | fail "q9")⟩) rfl (Nat.le_of_ble_eq_true rfl) (Nat.le_of_ble_eq_true rfl)
      · skip
        have hP : va_P (gD g) vwCl [(aR, .inr (11, [.ref aG, .ref aP, .ref aH, .ref aY, .ref aT, .ref aS, .ref aF, .ref aX, .int (iI pr), .int (iI tk), .int (iI tol), .int (iI hou)])), (aG, .inr (4, [.ref aGn, .ref aGw, .ref aGs, .int (iI kn)])), (aGn, .inl (gI g, 200, .inl (ar nd))), (aGw, .inl (gI g, 200, .inl (ar wk)))] H := hP
        have hD : va_D A [(aR, .inr (11, [.ref aG, .ref aP, .ref aH, .ref aY, .ref aT, .ref aS, .ref aF, .ref aX, .int (iI pr), .int (iI tk), .int (iI tol), .int (iI hou)])), (aG, .inr (4, [.ref aGn, .ref aGw, .ref aGs, .int (iI kn)])), (aGn, .inl (gI g, 200, .inl (ar nd))), (aGw, .inl (gI g, 200, .inl (ar wk)))] := hD
        obtain ⟨tv_2, pv_2⟩ := hv_2
        have tv_2 : 0 ≤ nn ∧ nn ≤ 100 := tv_2
        refine lv_iload_n hx hb dX8_addGround_14 rfl (lv_at hl 3 rfl) ?_
        refine x_iconst hx hb dX8_addGround_15 ?_
        refine x_bipush hx hb dX8_addGround_16 (by decide) ?_
        refine x_callvX (S := Unit) (SX := Unit) (wc := []) (wr := [(aR, .inr (11, [.ref aG, .ref aP, .ref aH, .ref aY, .ref aT, .ref aS, .ref aF, .ref aX, .int (iI pr), .int (iI tk), .int (iI tol), .int (iI hou)])), (aG, .inr (4, [.ref aGn, .ref aGw, .ref aGs, .int (iI kn)])), (aGn, .inl (gI g, 200, .inl (ar nd))), (aGw, .inl (gI g, 200, .inl (ar wk)))]) hC hP hD hS hA [] [0, 1, 2, 3] [0, 1, 2, 3] rfl rfl (fun hpre => vx_runS (As := [.int (iI nw), .int (iI 0), .int (iI 20)]) (rest := []) ⟨hx, hb, hml, hown, hts⟩ (c_X8_checkRange l hflags g H.size nw 0 20 (by first | (first | assumption | omega | exact bnd_up (by assumption) (by omega) (by omega)) | fail "q8") (by first | (first | assumption | omega | exact bnd_up (by assumption) (by omega) (by omega)) | fail "q8") (by first | (first | assumption | omega | exact bnd_up (by assumption) (by omega) (by omega)) | fail "q8")) (va_cwS 3 hts gX8_addGround_X8_checkRange rfl rfl rfl (by decide +kernel) ⟨Nat.le_of_ble_eq_true rfl, Nat.le_of_ble_eq_true rfl⟩) ⟨xB_blind, hpre _⟩ rfl rfl hl.1 rfl (lv_room (Nat.le_of_ble_eq_true rfl)) dX8_addGround_18 ⟨Nat.le_of_ble_eq_true rfl, Nat.le_of_ble_eq_true rfl⟩) (fun (u : Unit) => [(aR, .inr (11, [.ref aG, .ref aP, .ref aH, .ref aY, .ref aT, .ref aS, .ref aF, .ref aX, .int (iI pr), .int (iI tk), .int (iI tol), .int (iI hou)])), (aG, .inr (4, [.ref aGn, .ref aGw, .ref aGs, .int (iI kn)])), (aGn, .inl (gI g, 200, .inl (ar nd))), (aGw, .inl (gI g, 200, .inl (ar wk)))]) (fun (u : Unit) => ([(aR, .inr (11, [.ref aG, .ref aP, .ref aH, .ref aY, .ref aT, .ref aS, .ref aF, .ref aX, .int (iI pr), .int (iI tk), .int (iI tol), .int (iI hou)])), (aG, .inr (4, [.ref aGn, .ref aGw, .ref aGs, .int (iI kn)])), (aGn, .inl (gI g, 200, .inl (ar nd))), (aGw, .inl (gI g, 200, .inl (ar wk)))] : va_W)) rfl rfl (by decide) (fun _ => rfl) (fun _ => rfl) rfl (fun E ce q9 u H locs hXP hPX hP hD hS hcell hv9 hcl => ?_) (fun u H locs hv_3 hP hD hS => ?_)
        · skip
          have hP : va_P (gD g) vwCl [(aR, .inr (11, [.ref aG, .ref aP, .ref aH, .ref aY, .ref aT, .ref aS, .ref aF, .ref aX, .int (iI pr), .int (iI tk), .int (iI tol), .int (iI hou)])), (aG, .inr (4, [.ref aGn, .ref aGw, .ref aGs, .int (iI kn)])), (aGn, .inl (gI g, 200, .inl (ar nd))), (aGw, .inl (gI g, 200, .inl (ar wk)))] H := hP
          have hD : va_D A [(aR, .inr (11, [.ref aG, .ref aP, .ref aH, .ref aY, .ref aT, .ref aS, .ref aF, .ref aX, .int (iI pr), .int (iI tk), .int (iI tol), .int (iI hou)])), (aG, .inr (4, [.ref aGn, .ref aGw, .ref aGs, .int (iI kn)])), (aGn, .inl (gI g, 200, .inl (ar nd))), (aGw, .inl (gI g, 200, .inl (ar wk)))] := hD
          obtain ⟨hE, hp⟩ := hPX
          have hp : ¬ (0 ≤ nw ∧ nw ≤ 20) := hp
          subst hE
          rw [hQ9]
          exact x_out hout hlocks hP hD hS hcell hv9 hcl () trivial (Or.inl ⟨rfl, (by
              first
              | (
                 unfold agT
                 omega)
              | fail "q9")⟩) rfl (Nat.le_of_ble_eq_true rfl) (Nat.le_of_ble_eq_true rfl)
        · skip
          have hP : va_P (gD g) vwCl [(aR, .inr (11, [.ref aG, .ref aP, .ref aH, .ref aY, .ref aT, .ref aS, .ref aF, .ref aX, .int (iI pr), .int (iI tk), .int (iI tol), .int (iI hou)])), (aG, .inr (4, [.ref aGn, .ref aGw, .ref aGs, .int (iI kn)])), (aGn, .inl (gI g, 200, .inl (ar nd))), (aGw, .inl (gI g, 200, .inl (ar wk)))] H := hP
          have hD : va_D A [(aR, .inr (11, [.ref aG, .ref aP, .ref aH, .ref aY, .ref aT, .ref aS, .ref aF, .ref aX, .int (iI pr), .int (iI tk), .int (iI tol), .int (iI hou)])), (aG, .inr (4, [.ref aGn, .ref aGw, .ref aGs, .int (iI kn)])), (aGn, .inl (gI g, 200, .inl (ar nd))), (aGw, .inl (gI g, 200, .inl (ar wk)))] := hD
          obtain ⟨tv_3, pv_3⟩ := hv_3
          have tv_3 : 0 ≤ nw ∧ nw ≤ 20 := tv_3
          refine lv_aload_n hx hb dX8_addGround_21 rfl (lv_at hl 0 rfl) ?_
          refine va_get (D := gD g) (ci := 11) (v := .ref aG) (C := RX8) (T := TX8) (N := 12) hx hb hts hin8 hown hK hP 0 rfl rfl 0 (by decide) (hts (.fieldLink RX8 10 "TunnelRing" "ground" "LTunnelRing$Ground;") (List.mem_of_getElem? (i := 3) rfl)) (fun _ h9 => h9) rfl dX8_addGround_22 ?_
          refine va_get (D := gD g) (ci := 4) (v := .int (iI kn)) (C := RX1) (T := TX1) (N := 4) hx hb hts hin1 hown hK hP 1 rfl rfl 3 (by decide) (hts (.fieldLink RX8 82 "TunnelRing$Ground" "known" "I") (List.mem_of_getElem? (i := 4) rfl)) (fun _ h9 => h9) rfl dX8_addGround_25 ?_
          refine lv_iload_n hx hb dX8_addGround_28 rfl (lv_at hl 1 rfl) ?_
          refine x_iadd hx hb dX8_addGround_29 ?_
          refine x_sipush hx hb dX8_addGround_30 (by decide) ?_
          refine x_cmp_le (tgt := 46) hx hb (by omega) (by omega) dX8_addGround_33 (by decide) (fun c_4 => ?_) (fun c_4 => ?_)
          · skip
            refine lv_aload_n hx hb dX8_addGround_46 rfl (lv_at hl 0 rfl) ?_
            refine va_get (D := gD g) (ci := 11) (v := .ref aG) (C := RX8) (T := TX8) (N := 12) hx hb hts hin8 hown hK hP 0 rfl rfl 0 (by decide) (hts (.fieldLink RX8 10 "TunnelRing" "ground" "LTunnelRing$Ground;") (List.mem_of_getElem? (i := 3) rfl)) (fun _ h9 => h9) rfl dX8_addGround_47 ?_
            refine lv_iload_n hx hb dX8_addGround_50 rfl (lv_at hl 1 rfl) ?_
            refine lv_iload_n hx hb dX8_addGround_51 rfl (lv_at hl 2 rfl) ?_
            refine lv_iload_n hx hb dX8_addGround_52 rfl (lv_at hl 3 rfl) ?_
            refine x_callv (S := Unit) (wc := [(aG, .inr (4, [.ref aGn, .ref aGw, .ref aGs, .int (iI kn)])), (aGn, .inl (gI g, 200, .inl (ar nd))), (aGw, .inl (gI g, 200, .inl (ar wk)))]) (wr := [(aR, .inr (11, [.ref aG, .ref aP, .ref aH, .ref aY, .ref aT, .ref aS, .ref aF, .ref aX, .int (iI pr), .int (iI tk), .int (iI tol), .int (iI hou)]))]) hC hP hD hS hA [1, 2, 3] [0] [0, 1, 2, 3] rfl rfl (fun hpre => va_runV (As := [.int (iI rgs), .int (iI nn), .int (iI nw)]) (rest := []) ⟨hx, hb, hml, hown, hts⟩ (c_X1_extend l g H.size aG aGn aGw aGs kn rgs nn nw nd wk (by first | (first | assumption | omega | exact bnd_up (by assumption) (by omega) (by omega)) | fail "q8") (by first | (first | assumption | omega | exact bnd_up (by assumption) (by omega) (by omega)) | fail "q8") (by first | (first | assumption | omega | exact bnd_up (by assumption) (by omega) (by omega)) | fail "q8")) (cwV 3 hts gX8_addGround_X1_extend rfl rfl rfl (by decide +kernel) ⟨Nat.le_of_ble_eq_true rfl, Nat.le_of_ble_eq_true rfl⟩) ⟨xB_blind, va_recv hK hP (ci := 4) (q0 := 1) rfl rfl, hpre _⟩ rfl rfl hl.1 rfl (lv_room (Nat.le_of_ble_eq_true rfl)) dX8_addGround_53 ⟨Nat.le_of_ble_eq_true rfl, Nat.le_of_ble_eq_true rfl⟩) (fun (u : Unit) => [(aR, .inr (11, [.ref aG, .ref aP, .ref aH, .ref aY, .ref aT, .ref aS, .ref aF, .ref aX, .int (iI pr), .int (iI tk), .int (iI tol), .int (iI hou)])), (aG, .inr (4, [.ref aGn, .ref aGw, .ref aGs, .int (iI (kn + rgs))])), (aGn, .inl (gI g, 200, .inl (ar (fil nd kn (kn + rgs) nn)))), (aGw, .inl (gI g, 200, .inl (ar (fil wk kn (kn + rgs) nw))))]) rfl rfl (by decide) (fun _ => rfl) rfl (fun u H locs hv_5 hP hD hS => ?_)
            have hP : va_P (gD g) vwCl [(aR, .inr (11, [.ref aG, .ref aP, .ref aH, .ref aY, .ref aT, .ref aS, .ref aF, .ref aX, .int (iI pr), .int (iI tk), .int (iI tol), .int (iI hou)])), (aG, .inr (4, [.ref aGn, .ref aGw, .ref aGs, .int (iI (kn + rgs))])), (aGn, .inl (gI g, 200, .inl (ar (fil nd kn (kn + rgs) nn)))), (aGw, .inl (gI g, 200, .inl (ar (fil wk kn (kn + rgs) nw))))] H := hP
            have hD : va_D A [(aR, .inr (11, [.ref aG, .ref aP, .ref aH, .ref aY, .ref aT, .ref aS, .ref aF, .ref aX, .int (iI pr), .int (iI tk), .int (iI tol), .int (iI hou)])), (aG, .inr (4, [.ref aGn, .ref aGw, .ref aGs, .int (iI (kn + rgs))])), (aGn, .inl (gI g, 200, .inl (ar (fil nd kn (kn + rgs) nn)))), (aGw, .inl (gI g, 200, .inl (ar (fil wk kn (kn + rgs) nw))))] := hD
            refine lv_aload_n hx hb dX8_addGround_56 rfl (lv_at hl 0 rfl) ?_
            refine va_get (D := gD g) (ci := 11) (v := .ref aG) (C := RX8) (T := TX8) (N := 12) hx hb hts hin8 hown hK hP 0 rfl rfl 0 (by decide) (hts (.fieldLink RX8 10 "TunnelRing" "ground" "LTunnelRing$Ground;") (List.mem_of_getElem? (i := 3) rfl)) (fun _ h9 => h9) rfl dX8_addGround_57 ?_
            refine va_get (D := gD g) (ci := 4) (v := .int (iI (kn + rgs))) (C := RX1) (T := TX1) (N := 4) hx hb hts hin1 hown hK hP 1 rfl rfl 3 (by decide) (hts (.fieldLink RX8 82 "TunnelRing$Ground" "known" "I") (List.mem_of_getElem? (i := 4) rfl)) (fun _ h9 => h9) rfl dX8_addGround_60 ?_
            rw [hQ9]
            exact vx_ret (x_iret hx hb hr hlocks hP hD hS (S := Unit) rfl dX8_addGround_63 () rfl ⟨(by
                first
                | (
                   unfold agT
                   omega)
                | fail "q9"), trivial⟩ rfl (Nat.le_of_ble_eq_true rfl) (Nat.le_of_ble_eq_true rfl))
          · skip
            rw [hQ9]
            exact x_throwS hx hb hflags hown (by decide +kernel) (by decide +kernel) (hts (.classLink RX8 85 "java/lang/IllegalStateException") (List.mem_of_getElem? (i := 1) rfl)) (hts (.initialized "java/lang/IllegalStateException") (List.mem_of_getElem? (i := 2) rfl)) (hC.2.2.2.2.2.1 _ (List.mem_of_getElem? (i := 17) rfl)) (vx_hat (B := [.castable "java/lang/IllegalStateException" "java/lang/IllegalStateException", .declares (Bundle.initS "java/lang/RuntimeException"), .declares (Bundle.initS "java/lang/Exception"), .declares (Bundle.initS "java/lang/Throwable")]) (fun w h => hts w (List.mem_cons_of_mem _ (List.mem_append_left _ (List.mem_append_left _ (List.mem_append_right _ h))))) (by decide +kernel) (vx_c (va_Nw.use rfl (hC.2.2.2.2.2.2.2.2.2.2.1 "java/lang/IllegalStateException" (List.mem_of_getElem? (i := 1) rfl))) (vx_c (va_Nw.use rfl (hC.2.2.2.2.2.2.2.2.2.2.2.1 "java/lang/RuntimeException" (List.mem_of_getElem? (i := 0) rfl))) (vx_c (va_Nw.use rfl (hC.2.2.2.2.2.2.2.2.2.2.2.1 "java/lang/Exception" (List.mem_of_getElem? (i := 1) rfl))) (vx_c (va_Nw.use rfl (hC.2.2.2.2.2.2.2.2.2.2.2.1 "java/lang/Throwable" (List.mem_of_getElem? (i := 2) rfl))) vx_n))))) (by decide +kernel) hC hP hD hS (hl.1.trans hml.symm) dX8_addGround_36 dX8_addGround_39 dX8_addGround_40 dX8_addGround_42 dX8_addGround_45 hout (Nat.le_of_ble_eq_true rfl) (Nat.le_of_ble_eq_true rfl) (Nat.le_of_ble_eq_true rfl) (Nat.le_of_ble_eq_true rfl) hlocks () trivial (Or.inr ⟨rfl, (by
                first
                | (
                   unfold agT
                   omega)
                | fail "q9")⟩) rfl (Nat.le_of_ble_eq_true rfl) (Nat.le_of_ble_eq_true rfl)
  rw [hH, hlo, hQ9] at goal_
  exact goal_

set_option maxHeartbeats 4000000 in
set_option maxRecDepth 100000 in
theorem c_X8_addCurve (l : Launch) (hflags : l.stackTraces = false) (g : xg) (sz : Nat) (aR aG aP aH aY aT aS aF aX aPx aPy : Nat) (pr tk tol hou pn rgs nx ny : Int) (bx byy : Int → Int) (hpn : 0 ≤ pn ∧ pn ≤ 200) (hr_rgs : iR rgs) (hr_nx : iR nx) (hr_ny : iR ny) : vx_Met l yX8_addCurve wsX8_addCurve { frames := 7, cells := 4, slots := 24, locals := 114 } (va_Pc [.ref aR, .int (iI rgs), .int (iI nx), .int (iI ny)] (xB g [(aR, .inr (11, [.ref aG, .ref aP, .ref aH, .ref aY, .ref aT, .ref aS, .ref aF, .ref aX, .int (iI pr), .int (iI tk), .int (iI tol), .int (iI hou)])), (aP, .inr (6, [.ref aPx, .ref aPy, .int (iI pn)])), (aPx, .inl (gI g, 200, .inl (ar bx))), (aPy, .inl (gI g, 200, .inl (ar byy)))] sz)) (va_Qi (fun r u => r = iI ((fun (u : Unit) => pn + rgs) u) ∧ (fun (u : Unit) => (acT pn rgs nx ny = 0) ∧ (True)) u) (fun u t => xE g (va_A [(aR, .inr (11, [.ref aG, .ref aP, .ref aH, .ref aY, .ref aT, .ref aS, .ref aF, .ref aX, .int (iI pr), .int (iI tk), .int (iI tol), .int (iI hou)])), (aP, .inr (6, [.ref aPx, .ref aPy, .int (iI pn)])), (aPx, .inl (gI g, 200, .inl (ar bx))), (aPy, .inl (gI g, 200, .inl (ar byy)))] sz) ((fun (u : Unit) => [(aR, .inr (11, [.ref aG, .ref aP, .ref aH, .ref aY, .ref aT, .ref aS, .ref aF, .ref aX, .int (iI pr), .int (iI tk), .int (iI tol), .int (iI hou)])), (aP, .inr (6, [.ref aPx, .ref aPy, .int (iI (pn + rgs))])), (aPx, .inl (gI g, 200, .inl (ar (fil bx pn (pn + rgs) nx)))), (aPy, .inl (gI g, 200, .inl (ar (fil byy pn (pn + rgs) ny))))]) u) t) (va_A [(aR, .inr (11, [.ref aG, .ref aP, .ref aH, .ref aY, .ref aT, .ref aS, .ref aF, .ref aX, .int (iI pr), .int (iI tk), .int (iI tol), .int (iI hou)])), (aP, .inr (6, [.ref aPx, .ref aPy, .int (iI pn)])), (aPx, .inl (gI g, 200, .inl (ar bx))), (aPy, .inl (gI g, 200, .inl (ar byy)))] sz)) (xX g (va_A [(aR, .inr (11, [.ref aG, .ref aP, .ref aH, .ref aY, .ref aT, .ref aS, .ref aF, .ref aX, .int (iI pr), .int (iI tk), .int (iI tol), .int (iI hou)])), (aP, .inr (6, [.ref aPx, .ref aPy, .int (iI pn)])), (aPx, .inl (gI g, 200, .inl (ar bx))), (aPy, .inl (gI g, 200, .inl (ar byy)))] sz) (fun (u : Unit) => True) (fun E : String => (E = "java/lang/IllegalArgumentException" ∧ (acT pn rgs nx ny = 1)) ∨ (E = "java/lang/IllegalStateException" ∧ (acT pn rgs nx ny = 2))) (fun (u : Unit) => ([(aR, .inr (11, [.ref aG, .ref aP, .ref aH, .ref aY, .ref aT, .ref aS, .ref aF, .ref aX, .int (iI pr), .int (iI tk), .int (iI tol), .int (iI hou)])), (aP, .inr (6, [.ref aPx, .ref aPy, .int (iI pn)])), (aPx, .inl (gI g, 200, .inl (ar bx))), (aPy, .inl (gI g, 200, .inl (ar byy)))] : va_W))) 4 24 (va_A [(aR, .inr (11, [.ref aG, .ref aP, .ref aH, .ref aY, .ref aT, .ref aS, .ref aF, .ref aX, .int (iI pr), .int (iI tk), .int (iI tol), .int (iI hou)])), (aP, .inr (6, [.ref aPx, .ref aPy, .int (iI pn)])), (aPx, .inl (gI g, 200, .inl (ar bx))), (aPy, .inl (gI g, 200, .inl (ar byy)))] sz) := by
  refine x_enterX (y := yX8_addCurve) (ws := wsX8_addCurve) (g := g) (sz := sz) (av := [.ref aR, .int (iI rgs), .int (iI nx), .int (iI ny)]) (WS := [(aR, .inr (11, [.ref aG, .ref aP, .ref aH, .ref aY, .ref aT, .ref aS, .ref aF, .ref aX, .int (iI pr), .int (iI tk), .int (iI tol), .int (iI hou)])), (aP, .inr (6, [.ref aPx, .ref aPy, .int (iI pn)])), (aPx, .inl (gI g, 200, .inl (ar bx))), (aPy, .inl (gI g, 200, .inl (ar byy)))]) (cc := cX8_addCurve) (maxL := 4) (ret := some .int) (Qc := (fun A => (va_Qi (fun r u => r = iI ((fun (u : Unit) => pn + rgs) u) ∧ (fun (u : Unit) => (acT pn rgs nx ny = 0) ∧ (True)) u) (fun u t => xE g A ((fun (u : Unit) => [(aR, .inr (11, [.ref aG, .ref aP, .ref aH, .ref aY, .ref aT, .ref aS, .ref aF, .ref aX, .int (iI pr), .int (iI tk), .int (iI tol), .int (iI hou)])), (aP, .inr (6, [.ref aPx, .ref aPy, .int (iI (pn + rgs))])), (aPx, .inl (gI g, 200, .inl (ar (fil bx pn (pn + rgs) nx)))), (aPy, .inl (gI g, 200, .inl (ar (fil byy pn (pn + rgs) ny))))]) u) t) A))) (XC := (fun A => (xX g A (fun (u : Unit) => True) (fun E : String => (E = "java/lang/IllegalArgumentException" ∧ (acT pn rgs nx ny = 1)) ∨ (E = "java/lang/IllegalStateException" ∧ (acT pn rgs nx ny = 2))) (fun (u : Unit) => ([(aR, .inr (11, [.ref aG, .ref aP, .ref aH, .ref aY, .ref aT, .ref aS, .ref aF, .ref aX, .int (iI pr), .int (iI tk), .int (iI tol), .int (iI hou)])), (aP, .inr (6, [.ref aPx, .ref aPy, .int (iI pn)])), (aPx, .inl (gI g, 200, .inl (ar bx))), (aPy, .inl (gI g, 200, .inl (ar byy)))] : va_W))))) (by decide) rfl (Nat.le_of_ble_eq_true rfl) ?_
  intro p e s m args below meth c A ls hx hb hr hml hown hts hlocks hout hC hP hD hS hA hl
  have hK := hC.1
  have hown : s.vm.findClass RX8 = some m.cls := hown
  have hin3 : ∀ w ∈ u_ws RX3 TX3 3, w ∈ wsX8_addCurve := by decide +kernel
  have hin8 : ∀ w ∈ u_ws RX8 TX8 12, w ∈ wsX8_addCurve := by decide +kernel
  have hl : lv_has ls 4 [(0, .ref aR), (1, .int (iI rgs)), (2, .int (iI nx)), (3, .int (iI ny))] := hl
  obtain ⟨H, hH⟩ : ∃ z, z = s.heap := ⟨_, rfl⟩
  obtain ⟨locs, hlo⟩ : ∃ z : List Loc, z = [] := ⟨_, rfl⟩
  obtain ⟨Q9, hQ9⟩ : ∃ z, z = vx_MQ below (va_Qi (fun r u => r = iI ((fun (u : Unit) => pn + rgs) u) ∧ (fun (u : Unit) => (acT pn rgs nx ny = 0) ∧ (True)) u) (fun u t => xE g A ((fun (u : Unit) => [(aR, .inr (11, [.ref aG, .ref aP, .ref aH, .ref aY, .ref aT, .ref aS, .ref aF, .ref aX, .int (iI pr), .int (iI tk), .int (iI tol), .int (iI hou)])), (aP, .inr (6, [.ref aPx, .ref aPy, .int (iI (pn + rgs))])), (aPx, .inl (gI g, 200, .inl (ar (fil bx pn (pn + rgs) nx)))), (aPy, .inl (gI g, 200, .inl (ar (fil byy pn (pn + rgs) ny))))]) u) t) A) (xX g A (fun (u : Unit) => True) (fun E : String => (E = "java/lang/IllegalArgumentException" ∧ (acT pn rgs nx ny = 1)) ∨ (E = "java/lang/IllegalStateException" ∧ (acT pn rgs nx ny = 2))) (fun (u : Unit) => ([(aR, .inr (11, [.ref aG, .ref aP, .ref aH, .ref aY, .ref aT, .ref aS, .ref aF, .ref aX, .int (iI pr), .int (iI tk), .int (iI tol), .int (iI hou)])), (aP, .inr (6, [.ref aPx, .ref aPy, .int (iI pn)])), (aPx, .inl (gI g, 200, .inl (ar bx))), (aPy, .inl (gI g, 200, .inl (ar byy)))] : va_W))) args s 4 24 A := ⟨_, rfl⟩
  have hP : va_P (gD g) vwCl [(aR, .inr (11, [.ref aG, .ref aP, .ref aH, .ref aY, .ref aT, .ref aS, .ref aF, .ref aX, .int (iI pr), .int (iI tk), .int (iI tol), .int (iI hou)])), (aP, .inr (6, [.ref aPx, .ref aPy, .int (iI pn)])), (aPx, .inl (gI g, 200, .inl (ar bx))), (aPy, .inl (gI g, 200, .inl (ar byy)))] H := by rw [hH]; exact hP
  have hS : va_S A s.heap H locs := by rw [hH, hlo]; exact hS
  have goal_ : W p l e { frames := 7, cells := 4, slots := 24, locals := 114 } s m args below meth c H locs 0 0 Q9 (F0 m 0 ls []) := by
    clear hH hlo
    refine lv_iload_n hx hb dX8_addCurve_0 rfl (lv_at hl 1 rfl) ?_
    refine x_iconst hx hb dX8_addCurve_1 ?_
    refine x_bipush hx hb dX8_addCurve_2 (by decide) ?_
    refine x_callvX (S := Unit) (SX := Unit) (wc := []) (wr := [(aR, .inr (11, [.ref aG, .ref aP, .ref aH, .ref aY, .ref aT, .ref aS, .ref aF, .ref aX, .int (iI pr), .int (iI tk), .int (iI tol), .int (iI hou)])), (aP, .inr (6, [.ref aPx, .ref aPy, .int (iI pn)])), (aPx, .inl (gI g, 200, .inl (ar bx))), (aPy, .inl (gI g, 200, .inl (ar byy)))]) hC hP hD hS hA [] [0, 1, 2, 3] [0, 1, 2, 3] rfl rfl (fun hpre => vx_runS (As := [.int (iI rgs), .int (iI 1), .int (iI 50)]) (rest := []) ⟨hx, hb, hml, hown, hts⟩ (c_X8_checkRange l hflags g H.size rgs 1 50 (by first | (first | assumption | omega | exact bnd_up (by assumption) (by omega) (by omega)) | fail "q8") (by first | (first | assumption | omega | exact bnd_up (by assumption) (by omega) (by omega)) | fail "q8") (by first | (first | assumption | omega | exact bnd_up (by assumption) (by omega) (by omega)) | fail "q8")) (va_cwS 3 hts gX8_addCurve_X8_checkRange rfl rfl rfl (by decide +kernel) ⟨Nat.le_of_ble_eq_true rfl, Nat.le_of_ble_eq_true rfl⟩) ⟨xB_blind, hpre _⟩ rfl rfl hl.1 rfl (lv_room (Nat.le_of_ble_eq_true rfl)) dX8_addCurve_4 ⟨Nat.le_of_ble_eq_true rfl, Nat.le_of_ble_eq_true rfl⟩) (fun (u : Unit) => [(aR, .inr (11, [.ref aG, .ref aP, .ref aH, .ref aY, .ref aT, .ref aS, .ref aF, .ref aX, .int (iI pr), .int (iI tk), .int (iI tol), .int (iI hou)])), (aP, .inr (6, [.ref aPx, .ref aPy, .int (iI pn)])), (aPx, .inl (gI g, 200, .inl (ar bx))), (aPy, .inl (gI g, 200, .inl (ar byy)))]) (fun (u : Unit) => ([(aR, .inr (11, [.ref aG, .ref aP, .ref aH, .ref aY, .ref aT, .ref aS, .ref aF, .ref aX, .int (iI pr), .int (iI tk), .int (iI tol), .int (iI hou)])), (aP, .inr (6, [.ref aPx, .ref aPy, .int (iI pn)])), (aPx, .inl (gI g, 200, .inl (ar bx))), (aPy, .inl (gI g, 200, .inl (ar byy)))] : va_W)) rfl rfl (by decide) (fun _ => rfl) (fun _ => rfl) rfl (fun E ce q9 u H locs hXP hPX hP hD hS hcell hv9 hcl => ?_) (fun u H locs hv_1 hP hD hS => ?_)
    · skip
      have hP : va_P (gD g) vwCl [(aR, .inr (11, [.ref aG, .ref aP, .ref aH, .ref aY, .ref aT, .ref aS, .ref aF, .ref aX, .int (iI pr), .int (iI tk), .int (iI tol), .int (iI hou)])), (aP, .inr (6, [.ref aPx, .ref aPy, .int (iI pn)])), (aPx, .inl (gI g, 200, .inl (ar bx))), (aPy, .inl (gI g, 200, .inl (ar byy)))] H := hP
      have hD : va_D A [(aR, .inr (11, [.ref aG, .ref aP, .ref aH, .ref aY, .ref aT, .ref aS, .ref aF, .ref aX, .int (iI pr), .int (iI tk), .int (iI tol), .int (iI hou)])), (aP, .inr (6, [.ref aPx, .ref aPy, .int (iI pn)])), (aPx, .inl (gI g, 200, .inl (ar bx))), (aPy, .inl (gI g, 200, .inl (ar byy)))] := hD
      obtain ⟨hE, hp⟩ := hPX
      have hp : ¬ (1 ≤ rgs ∧ rgs ≤ 50) := hp
      subst hE
      rw [hQ9]
      exact x_out hout hlocks hP hD hS hcell hv9 hcl () trivial (Or.inl ⟨rfl, (by
          first
          | (
             unfold acT
             omega)
          | fail "q9")⟩) rfl (Nat.le_of_ble_eq_true rfl) (Nat.le_of_ble_eq_true rfl)
    · skip
      have hP : va_P (gD g) vwCl [(aR, .inr (11, [.ref aG, .ref aP, .ref aH, .ref aY, .ref aT, .ref aS, .ref aF, .ref aX, .int (iI pr), .int (iI tk), .int (iI tol), .int (iI hou)])), (aP, .inr (6, [.ref aPx, .ref aPy, .int (iI pn)])), (aPx, .inl (gI g, 200, .inl (ar bx))), (aPy, .inl (gI g, 200, .inl (ar byy)))] H := hP
      have hD : va_D A [(aR, .inr (11, [.ref aG, .ref aP, .ref aH, .ref aY, .ref aT, .ref aS, .ref aF, .ref aX, .int (iI pr), .int (iI tk), .int (iI tol), .int (iI hou)])), (aP, .inr (6, [.ref aPx, .ref aPy, .int (iI pn)])), (aPx, .inl (gI g, 200, .inl (ar bx))), (aPy, .inl (gI g, 200, .inl (ar byy)))] := hD
      obtain ⟨tv_1, pv_1⟩ := hv_1
      have tv_1 : 1 ≤ rgs ∧ rgs ≤ 50 := tv_1
      refine lv_iload_n hx hb dX8_addCurve_7 rfl (lv_at hl 2 rfl) ?_
      refine x_bipush hx hb dX8_addCurve_8 (by decide) ?_
      refine x_iconst hx hb dX8_addCurve_10 ?_
      refine x_callvX (S := Unit) (SX := Unit) (wc := []) (wr := [(aR, .inr (11, [.ref aG, .ref aP, .ref aH, .ref aY, .ref aT, .ref aS, .ref aF, .ref aX, .int (iI pr), .int (iI tk), .int (iI tol), .int (iI hou)])), (aP, .inr (6, [.ref aPx, .ref aPy, .int (iI pn)])), (aPx, .inl (gI g, 200, .inl (ar bx))), (aPy, .inl (gI g, 200, .inl (ar byy)))]) hC hP hD hS hA [] [0, 1, 2, 3] [0, 1, 2, 3] rfl rfl (fun hpre => vx_runS (As := [.int (iI nx), .int (iI (-5)), .int (iI 5)]) (rest := []) ⟨hx, hb, hml, hown, hts⟩ (c_X8_checkRange l hflags g H.size nx (-5) 5 (by first | (first | assumption | omega | exact bnd_up (by assumption) (by omega) (by omega)) | fail "q8") (by first | (first | assumption | omega | exact bnd_up (by assumption) (by omega) (by omega)) | fail "q8") (by first | (first | assumption | omega | exact bnd_up (by assumption) (by omega) (by omega)) | fail "q8")) (va_cwS 3 hts gX8_addCurve_X8_checkRange rfl rfl rfl (by decide +kernel) ⟨Nat.le_of_ble_eq_true rfl, Nat.le_of_ble_eq_true rfl⟩) ⟨xB_blind, hpre _⟩ rfl rfl hl.1 rfl (lv_room (Nat.le_of_ble_eq_true rfl)) dX8_addCurve_11 ⟨Nat.le_of_ble_eq_true rfl, Nat.le_of_ble_eq_true rfl⟩) (fun (u : Unit) => [(aR, .inr (11, [.ref aG, .ref aP, .ref aH, .ref aY, .ref aT, .ref aS, .ref aF, .ref aX, .int (iI pr), .int (iI tk), .int (iI tol), .int (iI hou)])), (aP, .inr (6, [.ref aPx, .ref aPy, .int (iI pn)])), (aPx, .inl (gI g, 200, .inl (ar bx))), (aPy, .inl (gI g, 200, .inl (ar byy)))]) (fun (u : Unit) => ([(aR, .inr (11, [.ref aG, .ref aP, .ref aH, .ref aY, .ref aT, .ref aS, .ref aF, .ref aX, .int (iI pr), .int (iI tk), .int (iI tol), .int (iI hou)])), (aP, .inr (6, [.ref aPx, .ref aPy, .int (iI pn)])), (aPx, .inl (gI g, 200, .inl (ar bx))), (aPy, .inl (gI g, 200, .inl (ar byy)))] : va_W)) rfl rfl (by decide) (fun _ => rfl) (fun _ => rfl) rfl (fun E ce q9 u H locs hXP hPX hP hD hS hcell hv9 hcl => ?_) (fun u H locs hv_2 hP hD hS => ?_)
      · skip
        have hP : va_P (gD g) vwCl [(aR, .inr (11, [.ref aG, .ref aP, .ref aH, .ref aY, .ref aT, .ref aS, .ref aF, .ref aX, .int (iI pr), .int (iI tk), .int (iI tol), .int (iI hou)])), (aP, .inr (6, [.ref aPx, .ref aPy, .int (iI pn)])), (aPx, .inl (gI g, 200, .inl (ar bx))), (aPy, .inl (gI g, 200, .inl (ar byy)))] H := hP
        have hD : va_D A [(aR, .inr (11, [.ref aG, .ref aP, .ref aH, .ref aY, .ref aT, .ref aS, .ref aF, .ref aX, .int (iI pr), .int (iI tk), .int (iI tol), .int (iI hou)])), (aP, .inr (6, [.ref aPx, .ref aPy, .int (iI pn)])), (aPx, .inl (gI g, 200, .inl (ar bx))), (aPy, .inl (gI g, 200, .inl (ar byy)))] := hD
        obtain ⟨hE, hp⟩ := hPX
        have hp : ¬ ((-5) ≤ nx ∧ nx ≤ 5) := hp
        subst hE
        rw [hQ9]
        exact x_out hout hlocks hP hD hS hcell hv9 hcl () trivial (Or.inl ⟨rfl, (by
            first
            | (
               unfold acT
               omega)
            | fail "q9")⟩) rfl (Nat.le_of_ble_eq_true rfl) (Nat.le_of_ble_eq_true rfl)
      · skip
        have hP : va_P (gD g) vwCl [(aR, .inr (11, [.ref aG, .ref aP, .ref aH, .ref aY, .ref aT, .ref aS, .ref aF, .ref aX, .int (iI pr), .int (iI tk), .int (iI tol), .int (iI hou)])), (aP, .inr (6, [.ref aPx, .ref aPy, .int (iI pn)])), (aPx, .inl (gI g, 200, .inl (ar bx))), (aPy, .inl (gI g, 200, .inl (ar byy)))] H := hP
        have hD : va_D A [(aR, .inr (11, [.ref aG, .ref aP, .ref aH, .ref aY, .ref aT, .ref aS, .ref aF, .ref aX, .int (iI pr), .int (iI tk), .int (iI tol), .int (iI hou)])), (aP, .inr (6, [.ref aPx, .ref aPy, .int (iI pn)])), (aPx, .inl (gI g, 200, .inl (ar bx))), (aPy, .inl (gI g, 200, .inl (ar byy)))] := hD
        obtain ⟨tv_2, pv_2⟩ := hv_2
        have tv_2 : (-5) ≤ nx ∧ nx ≤ 5 := tv_2
        refine lv_iload_n hx hb dX8_addCurve_14 rfl (lv_at hl 3 rfl) ?_
        refine x_bipush hx hb dX8_addCurve_15 (by decide) ?_
        refine x_iconst hx hb dX8_addCurve_17 ?_
        refine x_callvX (S := Unit) (SX := Unit) (wc := []) (wr := [(aR, .inr (11, [.ref aG, .ref aP, .ref aH, .ref aY, .ref aT, .ref aS, .ref aF, .ref aX, .int (iI pr), .int (iI tk), .int (iI tol), .int (iI hou)])), (aP, .inr (6, [.ref aPx, .ref aPy, .int (iI pn)])), (aPx, .inl (gI g, 200, .inl (ar bx))), (aPy, .inl (gI g, 200, .inl (ar byy)))]) hC hP hD hS hA [] [0, 1, 2, 3] [0, 1, 2, 3] rfl rfl (fun hpre => vx_runS (As := [.int (iI ny), .int (iI (-5)), .int (iI 5)]) (rest := []) ⟨hx, hb, hml, hown, hts⟩ (c_X8_checkRange l hflags g H.size ny (-5) 5 (by first | (first | assumption | omega | exact bnd_up (by assumption) (by omega) (by omega)) | fail "q8") (by first | (first | assumption | omega | exact bnd_up (by assumption) (by omega) (by omega)) | fail "q8") (by first | (first | assumption | omega | exact bnd_up (by assumption) (by omega) (by omega)) | fail "q8")) (va_cwS 3 hts gX8_addCurve_X8_checkRange rfl rfl rfl (by decide +kernel) ⟨Nat.le_of_ble_eq_true rfl, Nat.le_of_ble_eq_true rfl⟩) ⟨xB_blind, hpre _⟩ rfl rfl hl.1 rfl (lv_room (Nat.le_of_ble_eq_true rfl)) dX8_addCurve_18 ⟨Nat.le_of_ble_eq_true rfl, Nat.le_of_ble_eq_true rfl⟩) (fun (u : Unit) => [(aR, .inr (11, [.ref aG, .ref aP, .ref aH, .ref aY, .ref aT, .ref aS, .ref aF, .ref aX, .int (iI pr), .int (iI tk), .int (iI tol), .int (iI hou)])), (aP, .inr (6, [.ref aPx, .ref aPy, .int (iI pn)])), (aPx, .inl (gI g, 200, .inl (ar bx))), (aPy, .inl (gI g, 200, .inl (ar byy)))]) (fun (u : Unit) => ([(aR, .inr (11, [.ref aG, .ref aP, .ref aH, .ref aY, .ref aT, .ref aS, .ref aF, .ref aX, .int (iI pr), .int (iI tk), .int (iI tol), .int (iI hou)])), (aP, .inr (6, [.ref aPx, .ref aPy, .int (iI pn)])), (aPx, .inl (gI g, 200, .inl (ar bx))), (aPy, .inl (gI g, 200, .inl (ar byy)))] : va_W)) rfl rfl (by decide) (fun _ => rfl) (fun _ => rfl) rfl (fun E ce q9 u H locs hXP hPX hP hD hS hcell hv9 hcl => ?_) (fun u H locs hv_3 hP hD hS => ?_)
        · skip
          have hP : va_P (gD g) vwCl [(aR, .inr (11, [.ref aG, .ref aP, .ref aH, .ref aY, .ref aT, .ref aS, .ref aF, .ref aX, .int (iI pr), .int (iI tk), .int (iI tol), .int (iI hou)])), (aP, .inr (6, [.ref aPx, .ref aPy, .int (iI pn)])), (aPx, .inl (gI g, 200, .inl (ar bx))), (aPy, .inl (gI g, 200, .inl (ar byy)))] H := hP
          have hD : va_D A [(aR, .inr (11, [.ref aG, .ref aP, .ref aH, .ref aY, .ref aT, .ref aS, .ref aF, .ref aX, .int (iI pr), .int (iI tk), .int (iI tol), .int (iI hou)])), (aP, .inr (6, [.ref aPx, .ref aPy, .int (iI pn)])), (aPx, .inl (gI g, 200, .inl (ar bx))), (aPy, .inl (gI g, 200, .inl (ar byy)))] := hD
          obtain ⟨hE, hp⟩ := hPX
          have hp : ¬ ((-5) ≤ ny ∧ ny ≤ 5) := hp
          subst hE
          rw [hQ9]
          exact x_out hout hlocks hP hD hS hcell hv9 hcl () trivial (Or.inl ⟨rfl, (by
              first
              | (
                 unfold acT
                 omega)
              | fail "q9")⟩) rfl (Nat.le_of_ble_eq_true rfl) (Nat.le_of_ble_eq_true rfl)
        · skip
          have hP : va_P (gD g) vwCl [(aR, .inr (11, [.ref aG, .ref aP, .ref aH, .ref aY, .ref aT, .ref aS, .ref aF, .ref aX, .int (iI pr), .int (iI tk), .int (iI tol), .int (iI hou)])), (aP, .inr (6, [.ref aPx, .ref aPy, .int (iI pn)])), (aPx, .inl (gI g, 200, .inl (ar bx))), (aPy, .inl (gI g, 200, .inl (ar byy)))] H := hP
          have hD : va_D A [(aR, .inr (11, [.ref aG, .ref aP, .ref aH, .ref aY, .ref aT, .ref aS, .ref aF, .ref aX, .int (iI pr), .int (iI tk), .int (iI tol), .int (iI hou)])), (aP, .inr (6, [.ref aPx, .ref aPy, .int (iI pn)])), (aPx, .inl (gI g, 200, .inl (ar bx))), (aPy, .inl (gI g, 200, .inl (ar byy)))] := hD
          obtain ⟨tv_3, pv_3⟩ := hv_3
          have tv_3 : (-5) ≤ ny ∧ ny ≤ 5 := tv_3
          refine lv_aload_n hx hb dX8_addCurve_21 rfl (lv_at hl 0 rfl) ?_
          refine va_get (D := gD g) (ci := 11) (v := .ref aP) (C := RX8) (T := TX8) (N := 12) hx hb hts hin8 hown hK hP 0 rfl rfl 1 (by decide) (hts (.fieldLink RX8 19 "TunnelRing" "plan" "LTunnelRing$Plan;") (List.mem_of_getElem? (i := 3) rfl)) (fun _ h9 => h9) rfl dX8_addCurve_22 ?_
          refine va_get (D := gD g) (ci := 6) (v := .int (iI pn)) (C := RX3) (T := TX3) (N := 3) hx hb hts hin3 hown hK hP 1 rfl rfl 2 (by decide) (hts (.fieldLink RX8 95 "TunnelRing$Plan" "planned" "I") (List.mem_of_getElem? (i := 4) rfl)) (fun _ h9 => h9) rfl dX8_addCurve_25 ?_
          refine lv_iload_n hx hb dX8_addCurve_28 rfl (lv_at hl 1 rfl) ?_
          refine x_iadd hx hb dX8_addCurve_29 ?_
          refine x_sipush hx hb dX8_addCurve_30 (by decide) ?_
          refine x_cmp_le (tgt := 46) hx hb (by omega) (by omega) dX8_addCurve_33 (by decide) (fun c_4 => ?_) (fun c_4 => ?_)
          · skip
            refine lv_aload_n hx hb dX8_addCurve_46 rfl (lv_at hl 0 rfl) ?_
            refine va_get (D := gD g) (ci := 11) (v := .ref aP) (C := RX8) (T := TX8) (N := 12) hx hb hts hin8 hown hK hP 0 rfl rfl 1 (by decide) (hts (.fieldLink RX8 19 "TunnelRing" "plan" "LTunnelRing$Plan;") (List.mem_of_getElem? (i := 3) rfl)) (fun _ h9 => h9) rfl dX8_addCurve_47 ?_
            refine lv_iload_n hx hb dX8_addCurve_50 rfl (lv_at hl 1 rfl) ?_
            refine lv_iload_n hx hb dX8_addCurve_51 rfl (lv_at hl 2 rfl) ?_
            refine lv_iload_n hx hb dX8_addCurve_52 rfl (lv_at hl 3 rfl) ?_
            refine x_callv (S := Unit) (wc := [(aP, .inr (6, [.ref aPx, .ref aPy, .int (iI pn)])), (aPx, .inl (gI g, 200, .inl (ar bx))), (aPy, .inl (gI g, 200, .inl (ar byy)))]) (wr := [(aR, .inr (11, [.ref aG, .ref aP, .ref aH, .ref aY, .ref aT, .ref aS, .ref aF, .ref aX, .int (iI pr), .int (iI tk), .int (iI tol), .int (iI hou)]))]) hC hP hD hS hA [1, 2, 3] [0] [0, 1, 2, 3] rfl rfl (fun hpre => va_runV (As := [.int (iI rgs), .int (iI nx), .int (iI ny)]) (rest := []) ⟨hx, hb, hml, hown, hts⟩ (c_X3_extend l g H.size aP aPx aPy pn rgs nx ny bx byy (by first | (first | assumption | omega | exact bnd_up (by assumption) (by omega) (by omega)) | fail "q8") (by first | (first | assumption | omega | exact bnd_up (by assumption) (by omega) (by omega)) | fail "q8") (by first | (first | assumption | omega | exact bnd_up (by assumption) (by omega) (by omega)) | fail "q8")) (cwV 3 hts gX8_addCurve_X3_extend rfl rfl rfl (by decide +kernel) ⟨Nat.le_of_ble_eq_true rfl, Nat.le_of_ble_eq_true rfl⟩) ⟨xB_blind, va_recv hK hP (ci := 6) (q0 := 1) rfl rfl, hpre _⟩ rfl rfl hl.1 rfl (lv_room (Nat.le_of_ble_eq_true rfl)) dX8_addCurve_53 ⟨Nat.le_of_ble_eq_true rfl, Nat.le_of_ble_eq_true rfl⟩) (fun (u : Unit) => [(aR, .inr (11, [.ref aG, .ref aP, .ref aH, .ref aY, .ref aT, .ref aS, .ref aF, .ref aX, .int (iI pr), .int (iI tk), .int (iI tol), .int (iI hou)])), (aP, .inr (6, [.ref aPx, .ref aPy, .int (iI (pn + rgs))])), (aPx, .inl (gI g, 200, .inl (ar (fil bx pn (pn + rgs) nx)))), (aPy, .inl (gI g, 200, .inl (ar (fil byy pn (pn + rgs) ny))))]) rfl rfl (by decide) (fun _ => rfl) rfl (fun u H locs hv_5 hP hD hS => ?_)
            have hP : va_P (gD g) vwCl [(aR, .inr (11, [.ref aG, .ref aP, .ref aH, .ref aY, .ref aT, .ref aS, .ref aF, .ref aX, .int (iI pr), .int (iI tk), .int (iI tol), .int (iI hou)])), (aP, .inr (6, [.ref aPx, .ref aPy, .int (iI (pn + rgs))])), (aPx, .inl (gI g, 200, .inl (ar (fil bx pn (pn + rgs) nx)))), (aPy, .inl (gI g, 200, .inl (ar (fil byy pn (pn + rgs) ny))))] H := hP
            have hD : va_D A [(aR, .inr (11, [.ref aG, .ref aP, .ref aH, .ref aY, .ref aT, .ref aS, .ref aF, .ref aX, .int (iI pr), .int (iI tk), .int (iI tol), .int (iI hou)])), (aP, .inr (6, [.ref aPx, .ref aPy, .int (iI (pn + rgs))])), (aPx, .inl (gI g, 200, .inl (ar (fil bx pn (pn + rgs) nx)))), (aPy, .inl (gI g, 200, .inl (ar (fil byy pn (pn + rgs) ny))))] := hD
            refine lv_aload_n hx hb dX8_addCurve_56 rfl (lv_at hl 0 rfl) ?_
            refine va_get (D := gD g) (ci := 11) (v := .ref aP) (C := RX8) (T := TX8) (N := 12) hx hb hts hin8 hown hK hP 0 rfl rfl 1 (by decide) (hts (.fieldLink RX8 19 "TunnelRing" "plan" "LTunnelRing$Plan;") (List.mem_of_getElem? (i := 3) rfl)) (fun _ h9 => h9) rfl dX8_addCurve_57 ?_
            refine va_get (D := gD g) (ci := 6) (v := .int (iI (pn + rgs))) (C := RX3) (T := TX3) (N := 3) hx hb hts hin3 hown hK hP 1 rfl rfl 2 (by decide) (hts (.fieldLink RX8 95 "TunnelRing$Plan" "planned" "I") (List.mem_of_getElem? (i := 4) rfl)) (fun _ h9 => h9) rfl dX8_addCurve_60 ?_
            rw [hQ9]
            exact vx_ret (x_iret hx hb hr hlocks hP hD hS (S := Unit) rfl dX8_addCurve_63 () rfl ⟨(by
                first
                | (
                   unfold acT
                   omega)
                | fail "q9"), trivial⟩ rfl (Nat.le_of_ble_eq_true rfl) (Nat.le_of_ble_eq_true rfl))
          · skip
            rw [hQ9]
            exact x_throwS hx hb hflags hown (by decide +kernel) (by decide +kernel) (hts (.classLink RX8 85 "java/lang/IllegalStateException") (List.mem_of_getElem? (i := 1) rfl)) (hts (.initialized "java/lang/IllegalStateException") (List.mem_of_getElem? (i := 2) rfl)) (hC.2.2.2.2.2.1 _ (List.mem_of_getElem? (i := 18) rfl)) (vx_hat (B := [.castable "java/lang/IllegalStateException" "java/lang/IllegalStateException", .declares (Bundle.initS "java/lang/RuntimeException"), .declares (Bundle.initS "java/lang/Exception"), .declares (Bundle.initS "java/lang/Throwable")]) (fun w h => hts w (List.mem_cons_of_mem _ (List.mem_append_left _ (List.mem_append_left _ (List.mem_append_right _ h))))) (by decide +kernel) (vx_c (va_Nw.use rfl (hC.2.2.2.2.2.2.2.2.2.2.1 "java/lang/IllegalStateException" (List.mem_of_getElem? (i := 1) rfl))) (vx_c (va_Nw.use rfl (hC.2.2.2.2.2.2.2.2.2.2.2.1 "java/lang/RuntimeException" (List.mem_of_getElem? (i := 0) rfl))) (vx_c (va_Nw.use rfl (hC.2.2.2.2.2.2.2.2.2.2.2.1 "java/lang/Exception" (List.mem_of_getElem? (i := 1) rfl))) (vx_c (va_Nw.use rfl (hC.2.2.2.2.2.2.2.2.2.2.2.1 "java/lang/Throwable" (List.mem_of_getElem? (i := 2) rfl))) vx_n))))) (by decide +kernel) hC hP hD hS (hl.1.trans hml.symm) dX8_addCurve_36 dX8_addCurve_39 dX8_addCurve_40 dX8_addCurve_42 dX8_addCurve_45 hout (Nat.le_of_ble_eq_true rfl) (Nat.le_of_ble_eq_true rfl) (Nat.le_of_ble_eq_true rfl) (Nat.le_of_ble_eq_true rfl) hlocks () trivial (Or.inr ⟨rfl, (by
                first
                | (
                   unfold acT
                   omega)
                | fail "q9")⟩) rfl (Nat.le_of_ble_eq_true rfl) (Nat.le_of_ble_eq_true rfl)
  rw [hH, hlo, hQ9] at goal_
  exact goal_

set_option maxHeartbeats 4000000 in
set_option maxRecDepth 100000 in
theorem c_X8_positionOf (l : Launch) (hflags : l.stackTraces = false) (g : xg) (sz : Nat) (aR aG aP aH aY aT aS aF aX aTp aTt aTx aTy aE : Nat) (pr tk tol hou ld rg : Int) (tp : Int → Int) (hld : 0 ≤ ld ∧ ld ≤ 200) (hb_tp : bnd tp 0 7) (hr_rg : iR rg) : vx_Met l yX8_positionOf wsX8_positionOf { frames := 7, cells := 1, slots := 6, locals := 113 } (va_Pc [.ref aR, .int (iI rg)] (xB g [(aR, .inr (11, [.ref aG, .ref aP, .ref aH, .ref aY, .ref aT, .ref aS, .ref aF, .ref aX, .int (iI pr), .int (iI tk), .int (iI tol), .int (iI hou)])), (aT, .inr (9, [.ref aTp, .ref aTt, .ref aTx, .ref aTy, .ref aE, .int (iI ld)])), (aTp, .inl (gI g, 200, .inl (ar tp)))] sz)) (va_Qi (fun r u => r = iI ((fun (u : Unit) => gt0 ld tp rg) u) ∧ (fun (u : Unit) => (rgT ld rg = 0) ∧ (True)) u) (fun u t => xE g (va_A [(aR, .inr (11, [.ref aG, .ref aP, .ref aH, .ref aY, .ref aT, .ref aS, .ref aF, .ref aX, .int (iI pr), .int (iI tk), .int (iI tol), .int (iI hou)])), (aT, .inr (9, [.ref aTp, .ref aTt, .ref aTx, .ref aTy, .ref aE, .int (iI ld)])), (aTp, .inl (gI g, 200, .inl (ar tp)))] sz) ((fun (u : Unit) => [(aR, .inr (11, [.ref aG, .ref aP, .ref aH, .ref aY, .ref aT, .ref aS, .ref aF, .ref aX, .int (iI pr), .int (iI tk), .int (iI tol), .int (iI hou)])), (aT, .inr (9, [.ref aTp, .ref aTt, .ref aTx, .ref aTy, .ref aE, .int (iI ld)])), (aTp, .inl (gI g, 200, .inl (ar tp)))]) u) t) (va_A [(aR, .inr (11, [.ref aG, .ref aP, .ref aH, .ref aY, .ref aT, .ref aS, .ref aF, .ref aX, .int (iI pr), .int (iI tk), .int (iI tol), .int (iI hou)])), (aT, .inr (9, [.ref aTp, .ref aTt, .ref aTx, .ref aTy, .ref aE, .int (iI ld)])), (aTp, .inl (gI g, 200, .inl (ar tp)))] sz)) (xX g (va_A [(aR, .inr (11, [.ref aG, .ref aP, .ref aH, .ref aY, .ref aT, .ref aS, .ref aF, .ref aX, .int (iI pr), .int (iI tk), .int (iI tol), .int (iI hou)])), (aT, .inr (9, [.ref aTp, .ref aTt, .ref aTx, .ref aTy, .ref aE, .int (iI ld)])), (aTp, .inl (gI g, 200, .inl (ar tp)))] sz) (fun (u : Unit) => True) (fun E : String => (E = "java/lang/IndexOutOfBoundsException" ∧ (rgT ld rg = 1))) (fun (u : Unit) => ([(aR, .inr (11, [.ref aG, .ref aP, .ref aH, .ref aY, .ref aT, .ref aS, .ref aF, .ref aX, .int (iI pr), .int (iI tk), .int (iI tol), .int (iI hou)])), (aT, .inr (9, [.ref aTp, .ref aTt, .ref aTx, .ref aTy, .ref aE, .int (iI ld)])), (aTp, .inl (gI g, 200, .inl (ar tp)))] : va_W))) 1 6 (va_A [(aR, .inr (11, [.ref aG, .ref aP, .ref aH, .ref aY, .ref aT, .ref aS, .ref aF, .ref aX, .int (iI pr), .int (iI tk), .int (iI tol), .int (iI hou)])), (aT, .inr (9, [.ref aTp, .ref aTt, .ref aTx, .ref aTy, .ref aE, .int (iI ld)])), (aTp, .inl (gI g, 200, .inl (ar tp)))] sz) := by
  refine x_enterX (y := yX8_positionOf) (ws := wsX8_positionOf) (g := g) (sz := sz) (av := [.ref aR, .int (iI rg)]) (WS := [(aR, .inr (11, [.ref aG, .ref aP, .ref aH, .ref aY, .ref aT, .ref aS, .ref aF, .ref aX, .int (iI pr), .int (iI tk), .int (iI tol), .int (iI hou)])), (aT, .inr (9, [.ref aTp, .ref aTt, .ref aTx, .ref aTy, .ref aE, .int (iI ld)])), (aTp, .inl (gI g, 200, .inl (ar tp)))]) (cc := cX8_positionOf) (maxL := 2) (ret := some .int) (Qc := (fun A => (va_Qi (fun r u => r = iI ((fun (u : Unit) => gt0 ld tp rg) u) ∧ (fun (u : Unit) => (rgT ld rg = 0) ∧ (True)) u) (fun u t => xE g A ((fun (u : Unit) => [(aR, .inr (11, [.ref aG, .ref aP, .ref aH, .ref aY, .ref aT, .ref aS, .ref aF, .ref aX, .int (iI pr), .int (iI tk), .int (iI tol), .int (iI hou)])), (aT, .inr (9, [.ref aTp, .ref aTt, .ref aTx, .ref aTy, .ref aE, .int (iI ld)])), (aTp, .inl (gI g, 200, .inl (ar tp)))]) u) t) A))) (XC := (fun A => (xX g A (fun (u : Unit) => True) (fun E : String => (E = "java/lang/IndexOutOfBoundsException" ∧ (rgT ld rg = 1))) (fun (u : Unit) => ([(aR, .inr (11, [.ref aG, .ref aP, .ref aH, .ref aY, .ref aT, .ref aS, .ref aF, .ref aX, .int (iI pr), .int (iI tk), .int (iI tol), .int (iI hou)])), (aT, .inr (9, [.ref aTp, .ref aTt, .ref aTx, .ref aTy, .ref aE, .int (iI ld)])), (aTp, .inl (gI g, 200, .inl (ar tp)))] : va_W))))) (by decide) rfl (Nat.le_of_ble_eq_true rfl) ?_
  intro p e s m args below meth c A ls hx hb hr hml hown hts hlocks hout hC hP hD hS hA hl
  have hK := hC.1
  have hown : s.vm.findClass RX8 = some m.cls := hown
  have hin6 : ∀ w ∈ u_ws RX6 TX6 6, w ∈ wsX8_positionOf := by decide +kernel
  have hin8 : ∀ w ∈ u_ws RX8 TX8 12, w ∈ wsX8_positionOf := by decide +kernel
  have hl : lv_has ls 2 [(0, .ref aR), (1, .int (iI rg))] := hl
  obtain ⟨H, hH⟩ : ∃ z, z = s.heap := ⟨_, rfl⟩
  obtain ⟨locs, hlo⟩ : ∃ z : List Loc, z = [] := ⟨_, rfl⟩
  obtain ⟨Q9, hQ9⟩ : ∃ z, z = vx_MQ below (va_Qi (fun r u => r = iI ((fun (u : Unit) => gt0 ld tp rg) u) ∧ (fun (u : Unit) => (rgT ld rg = 0) ∧ (True)) u) (fun u t => xE g A ((fun (u : Unit) => [(aR, .inr (11, [.ref aG, .ref aP, .ref aH, .ref aY, .ref aT, .ref aS, .ref aF, .ref aX, .int (iI pr), .int (iI tk), .int (iI tol), .int (iI hou)])), (aT, .inr (9, [.ref aTp, .ref aTt, .ref aTx, .ref aTy, .ref aE, .int (iI ld)])), (aTp, .inl (gI g, 200, .inl (ar tp)))]) u) t) A) (xX g A (fun (u : Unit) => True) (fun E : String => (E = "java/lang/IndexOutOfBoundsException" ∧ (rgT ld rg = 1))) (fun (u : Unit) => ([(aR, .inr (11, [.ref aG, .ref aP, .ref aH, .ref aY, .ref aT, .ref aS, .ref aF, .ref aX, .int (iI pr), .int (iI tk), .int (iI tol), .int (iI hou)])), (aT, .inr (9, [.ref aTp, .ref aTt, .ref aTx, .ref aTy, .ref aE, .int (iI ld)])), (aTp, .inl (gI g, 200, .inl (ar tp)))] : va_W))) args s 1 6 A := ⟨_, rfl⟩
  have hP : va_P (gD g) vwCl [(aR, .inr (11, [.ref aG, .ref aP, .ref aH, .ref aY, .ref aT, .ref aS, .ref aF, .ref aX, .int (iI pr), .int (iI tk), .int (iI tol), .int (iI hou)])), (aT, .inr (9, [.ref aTp, .ref aTt, .ref aTx, .ref aTy, .ref aE, .int (iI ld)])), (aTp, .inl (gI g, 200, .inl (ar tp)))] H := by rw [hH]; exact hP
  have hS : va_S A s.heap H locs := by rw [hH, hlo]; exact hS
  have goal_ : W p l e { frames := 7, cells := 1, slots := 6, locals := 113 } s m args below meth c H locs 0 0 Q9 (F0 m 0 ls []) := by
    clear hH hlo
    refine lv_aload_n hx hb dX8_positionOf_0 rfl (lv_at hl 0 rfl) ?_
    refine lv_iload_n hx hb dX8_positionOf_1 rfl (lv_at hl 1 rfl) ?_
    refine x_callvX (S := Unit) (SX := Unit) (wc := [(aR, .inr (11, [.ref aG, .ref aP, .ref aH, .ref aY, .ref aT, .ref aS, .ref aF, .ref aX, .int (iI pr), .int (iI tk), .int (iI tol), .int (iI hou)])), (aT, .inr (9, [.ref aTp, .ref aTt, .ref aTx, .ref aTy, .ref aE, .int (iI ld)]))]) (wr := [(aTp, .inl (gI g, 200, .inl (ar tp)))]) hC hP hD hS hA [0, 1] [2] [1, 2, 0] rfl rfl (fun hpre => vx_runV (As := [.int (iI rg)]) (rest := []) ⟨hx, hb, hml, hown, hts⟩ (c_X8_checkLaid l hflags g H.size aR aG aP aH aY aT aS aF aX aTp aTt aTx aTy aE pr tk tol hou ld rg (by first | (first | assumption | omega | exact bnd_up (by assumption) (by omega) (by omega)) | fail "q8") (by first | (first | assumption | omega | exact bnd_up (by assumption) (by omega) (by omega)) | fail "q8")) (cwV 1 hts gX8_positionOf_X8_checkLaid rfl rfl rfl (by decide +kernel) ⟨Nat.le_of_ble_eq_true rfl, Nat.le_of_ble_eq_true rfl⟩) ⟨xB_blind, va_recv hK hP (ci := 11) (q0 := 0) rfl rfl, hpre _⟩ rfl rfl hl.1 rfl (lv_room (Nat.le_of_ble_eq_true rfl)) dX8_positionOf_2 ⟨Nat.le_of_ble_eq_true rfl, Nat.le_of_ble_eq_true rfl⟩) (fun (u : Unit) => [(aR, .inr (11, [.ref aG, .ref aP, .ref aH, .ref aY, .ref aT, .ref aS, .ref aF, .ref aX, .int (iI pr), .int (iI tk), .int (iI tol), .int (iI hou)])), (aT, .inr (9, [.ref aTp, .ref aTt, .ref aTx, .ref aTy, .ref aE, .int (iI ld)])), (aTp, .inl (gI g, 200, .inl (ar tp)))]) (fun (u : Unit) => ([(aR, .inr (11, [.ref aG, .ref aP, .ref aH, .ref aY, .ref aT, .ref aS, .ref aF, .ref aX, .int (iI pr), .int (iI tk), .int (iI tol), .int (iI hou)])), (aT, .inr (9, [.ref aTp, .ref aTt, .ref aTx, .ref aTy, .ref aE, .int (iI ld)])), (aTp, .inl (gI g, 200, .inl (ar tp)))] : va_W)) rfl rfl (by decide) (fun _ => rfl) (fun _ => rfl) rfl (fun E ce q9 u H locs hXP hPX hP hD hS hcell hv9 hcl => ?_) (fun u H locs hv_1 hP hD hS => ?_)
    · skip
      have hP : va_P (gD g) vwCl [(aR, .inr (11, [.ref aG, .ref aP, .ref aH, .ref aY, .ref aT, .ref aS, .ref aF, .ref aX, .int (iI pr), .int (iI tk), .int (iI tol), .int (iI hou)])), (aT, .inr (9, [.ref aTp, .ref aTt, .ref aTx, .ref aTy, .ref aE, .int (iI ld)])), (aTp, .inl (gI g, 200, .inl (ar tp)))] H := hP
      have hD : va_D A [(aR, .inr (11, [.ref aG, .ref aP, .ref aH, .ref aY, .ref aT, .ref aS, .ref aF, .ref aX, .int (iI pr), .int (iI tk), .int (iI tol), .int (iI hou)])), (aT, .inr (9, [.ref aTp, .ref aTt, .ref aTx, .ref aTy, .ref aE, .int (iI ld)])), (aTp, .inl (gI g, 200, .inl (ar tp)))] := hD
      obtain ⟨hE, hp⟩ := hPX
      have hp : ¬ (0 ≤ rg ∧ rg < ld) := hp
      subst hE
      rw [hQ9]
      exact x_out hout hlocks hP hD hS hcell hv9 hcl () trivial ⟨rfl, (by
          first
          | (
             unfold rgT
             omega)
          | fail "q9")⟩ rfl (Nat.le_of_ble_eq_true rfl) (Nat.le_of_ble_eq_true rfl)
    · skip
      have hP : va_P (gD g) vwCl [(aR, .inr (11, [.ref aG, .ref aP, .ref aH, .ref aY, .ref aT, .ref aS, .ref aF, .ref aX, .int (iI pr), .int (iI tk), .int (iI tol), .int (iI hou)])), (aT, .inr (9, [.ref aTp, .ref aTt, .ref aTx, .ref aTy, .ref aE, .int (iI ld)])), (aTp, .inl (gI g, 200, .inl (ar tp)))] H := hP
      have hD : va_D A [(aR, .inr (11, [.ref aG, .ref aP, .ref aH, .ref aY, .ref aT, .ref aS, .ref aF, .ref aX, .int (iI pr), .int (iI tk), .int (iI tol), .int (iI hou)])), (aT, .inr (9, [.ref aTp, .ref aTt, .ref aTx, .ref aTy, .ref aE, .int (iI ld)])), (aTp, .inl (gI g, 200, .inl (ar tp)))] := hD
      obtain ⟨tv_1, pv_1⟩ := hv_1
      have tv_1 : 0 ≤ rg ∧ rg < ld := tv_1
      refine lv_aload_n hx hb dX8_positionOf_5 rfl (lv_at hl 0 rfl) ?_
      refine va_get (D := gD g) (ci := 11) (v := .ref aT) (C := RX8) (T := TX8) (N := 12) hx hb hts hin8 hown hK hP 0 rfl rfl 4 (by decide) (hts (.fieldLink RX8 40 "TunnelRing" "tube" "LTunnelRing$Tube;") (List.mem_of_getElem? (i := 1) rfl)) (fun _ h9 => h9) rfl dX8_positionOf_6 ?_
      refine va_get (D := gD g) (ci := 9) (v := .ref aTp) (C := RX6) (T := TX6) (N := 6) hx hb hts hin6 hown hK hP 1 rfl rfl 0 (by decide) (hts (.fieldLink RX8 221 "TunnelRing$Tube" "position" "[I") (List.mem_of_getElem? (i := 2) rfl)) (fun _ h9 => h9) rfl dX8_positionOf_9 ?_
      refine lv_iload_n hx hb dX8_positionOf_12 rfl (lv_at hl 1 rfl) ?_
      refine x_iald hx hb hK hP 2 0 rfl rfl (by omega) (by omega) (Nat.le_of_ble_eq_true rfl) dX8_positionOf_13 (fun v_2 hv_2 => ?_)
      have bv_2 : 0 ≤ v_2 ∧ v_2 ≤ 7 := by rw [hv_2]; exact hb_tp _
      rw [hQ9]
      exact vx_ret (x_iret hx hb hr hlocks hP hD hS (S := Unit) rfl dX8_positionOf_14 () (by
          first
          | (
             subst_vars
             first | rfl | (rw [gt0_in (by omega)]))
          | fail "q9") ⟨(by
          first
          | (
             unfold rgT
             omega)
          | fail "q9"), trivial⟩ rfl (Nat.le_of_ble_eq_true rfl) (Nat.le_of_ble_eq_true rfl))
  rw [hH, hlo, hQ9] at goal_
  exact goal_

set_option maxHeartbeats 4000000 in
set_option maxRecDepth 100000 in
theorem c_X8_taperOf (l : Launch) (hflags : l.stackTraces = false) (g : xg) (sz : Nat) (aR aG aP aH aY aT aS aF aX aTp aTt aTx aTy aE : Nat) (pr tk tol hou ld rg : Int) (tt : Int → Int) (hld : 0 ≤ ld ∧ ld ≤ 200) (hb_tt : bnd tt 0 9) (hr_rg : iR rg) : vx_Met l yX8_taperOf wsX8_taperOf { frames := 7, cells := 1, slots := 6, locals := 113 } (va_Pc [.ref aR, .int (iI rg)] (xB g [(aR, .inr (11, [.ref aG, .ref aP, .ref aH, .ref aY, .ref aT, .ref aS, .ref aF, .ref aX, .int (iI pr), .int (iI tk), .int (iI tol), .int (iI hou)])), (aT, .inr (9, [.ref aTp, .ref aTt, .ref aTx, .ref aTy, .ref aE, .int (iI ld)])), (aTt, .inl (gI g, 200, .inl (ar tt)))] sz)) (va_Qi (fun r u => r = iI ((fun (u : Unit) => gt0 ld tt rg) u) ∧ (fun (u : Unit) => (rgT ld rg = 0) ∧ (True)) u) (fun u t => xE g (va_A [(aR, .inr (11, [.ref aG, .ref aP, .ref aH, .ref aY, .ref aT, .ref aS, .ref aF, .ref aX, .int (iI pr), .int (iI tk), .int (iI tol), .int (iI hou)])), (aT, .inr (9, [.ref aTp, .ref aTt, .ref aTx, .ref aTy, .ref aE, .int (iI ld)])), (aTt, .inl (gI g, 200, .inl (ar tt)))] sz) ((fun (u : Unit) => [(aR, .inr (11, [.ref aG, .ref aP, .ref aH, .ref aY, .ref aT, .ref aS, .ref aF, .ref aX, .int (iI pr), .int (iI tk), .int (iI tol), .int (iI hou)])), (aT, .inr (9, [.ref aTp, .ref aTt, .ref aTx, .ref aTy, .ref aE, .int (iI ld)])), (aTt, .inl (gI g, 200, .inl (ar tt)))]) u) t) (va_A [(aR, .inr (11, [.ref aG, .ref aP, .ref aH, .ref aY, .ref aT, .ref aS, .ref aF, .ref aX, .int (iI pr), .int (iI tk), .int (iI tol), .int (iI hou)])), (aT, .inr (9, [.ref aTp, .ref aTt, .ref aTx, .ref aTy, .ref aE, .int (iI ld)])), (aTt, .inl (gI g, 200, .inl (ar tt)))] sz)) (xX g (va_A [(aR, .inr (11, [.ref aG, .ref aP, .ref aH, .ref aY, .ref aT, .ref aS, .ref aF, .ref aX, .int (iI pr), .int (iI tk), .int (iI tol), .int (iI hou)])), (aT, .inr (9, [.ref aTp, .ref aTt, .ref aTx, .ref aTy, .ref aE, .int (iI ld)])), (aTt, .inl (gI g, 200, .inl (ar tt)))] sz) (fun (u : Unit) => True) (fun E : String => (E = "java/lang/IndexOutOfBoundsException" ∧ (rgT ld rg = 1))) (fun (u : Unit) => ([(aR, .inr (11, [.ref aG, .ref aP, .ref aH, .ref aY, .ref aT, .ref aS, .ref aF, .ref aX, .int (iI pr), .int (iI tk), .int (iI tol), .int (iI hou)])), (aT, .inr (9, [.ref aTp, .ref aTt, .ref aTx, .ref aTy, .ref aE, .int (iI ld)])), (aTt, .inl (gI g, 200, .inl (ar tt)))] : va_W))) 1 6 (va_A [(aR, .inr (11, [.ref aG, .ref aP, .ref aH, .ref aY, .ref aT, .ref aS, .ref aF, .ref aX, .int (iI pr), .int (iI tk), .int (iI tol), .int (iI hou)])), (aT, .inr (9, [.ref aTp, .ref aTt, .ref aTx, .ref aTy, .ref aE, .int (iI ld)])), (aTt, .inl (gI g, 200, .inl (ar tt)))] sz) := by
  refine x_enterX (y := yX8_taperOf) (ws := wsX8_taperOf) (g := g) (sz := sz) (av := [.ref aR, .int (iI rg)]) (WS := [(aR, .inr (11, [.ref aG, .ref aP, .ref aH, .ref aY, .ref aT, .ref aS, .ref aF, .ref aX, .int (iI pr), .int (iI tk), .int (iI tol), .int (iI hou)])), (aT, .inr (9, [.ref aTp, .ref aTt, .ref aTx, .ref aTy, .ref aE, .int (iI ld)])), (aTt, .inl (gI g, 200, .inl (ar tt)))]) (cc := cX8_taperOf) (maxL := 2) (ret := some .int) (Qc := (fun A => (va_Qi (fun r u => r = iI ((fun (u : Unit) => gt0 ld tt rg) u) ∧ (fun (u : Unit) => (rgT ld rg = 0) ∧ (True)) u) (fun u t => xE g A ((fun (u : Unit) => [(aR, .inr (11, [.ref aG, .ref aP, .ref aH, .ref aY, .ref aT, .ref aS, .ref aF, .ref aX, .int (iI pr), .int (iI tk), .int (iI tol), .int (iI hou)])), (aT, .inr (9, [.ref aTp, .ref aTt, .ref aTx, .ref aTy, .ref aE, .int (iI ld)])), (aTt, .inl (gI g, 200, .inl (ar tt)))]) u) t) A))) (XC := (fun A => (xX g A (fun (u : Unit) => True) (fun E : String => (E = "java/lang/IndexOutOfBoundsException" ∧ (rgT ld rg = 1))) (fun (u : Unit) => ([(aR, .inr (11, [.ref aG, .ref aP, .ref aH, .ref aY, .ref aT, .ref aS, .ref aF, .ref aX, .int (iI pr), .int (iI tk), .int (iI tol), .int (iI hou)])), (aT, .inr (9, [.ref aTp, .ref aTt, .ref aTx, .ref aTy, .ref aE, .int (iI ld)])), (aTt, .inl (gI g, 200, .inl (ar tt)))] : va_W))))) (by decide) rfl (Nat.le_of_ble_eq_true rfl) ?_
  intro p e s m args below meth c A ls hx hb hr hml hown hts hlocks hout hC hP hD hS hA hl
  have hK := hC.1
  have hown : s.vm.findClass RX8 = some m.cls := hown
  have hin6 : ∀ w ∈ u_ws RX6 TX6 6, w ∈ wsX8_taperOf := by decide +kernel
  have hin8 : ∀ w ∈ u_ws RX8 TX8 12, w ∈ wsX8_taperOf := by decide +kernel
  have hl : lv_has ls 2 [(0, .ref aR), (1, .int (iI rg))] := hl
  obtain ⟨H, hH⟩ : ∃ z, z = s.heap := ⟨_, rfl⟩
  obtain ⟨locs, hlo⟩ : ∃ z : List Loc, z = [] := ⟨_, rfl⟩
  obtain ⟨Q9, hQ9⟩ : ∃ z, z = vx_MQ below (va_Qi (fun r u => r = iI ((fun (u : Unit) => gt0 ld tt rg) u) ∧ (fun (u : Unit) => (rgT ld rg = 0) ∧ (True)) u) (fun u t => xE g A ((fun (u : Unit) => [(aR, .inr (11, [.ref aG, .ref aP, .ref aH, .ref aY, .ref aT, .ref aS, .ref aF, .ref aX, .int (iI pr), .int (iI tk), .int (iI tol), .int (iI hou)])), (aT, .inr (9, [.ref aTp, .ref aTt, .ref aTx, .ref aTy, .ref aE, .int (iI ld)])), (aTt, .inl (gI g, 200, .inl (ar tt)))]) u) t) A) (xX g A (fun (u : Unit) => True) (fun E : String => (E = "java/lang/IndexOutOfBoundsException" ∧ (rgT ld rg = 1))) (fun (u : Unit) => ([(aR, .inr (11, [.ref aG, .ref aP, .ref aH, .ref aY, .ref aT, .ref aS, .ref aF, .ref aX, .int (iI pr), .int (iI tk), .int (iI tol), .int (iI hou)])), (aT, .inr (9, [.ref aTp, .ref aTt, .ref aTx, .ref aTy, .ref aE, .int (iI ld)])), (aTt, .inl (gI g, 200, .inl (ar tt)))] : va_W))) args s 1 6 A := ⟨_, rfl⟩
  have hP : va_P (gD g) vwCl [(aR, .inr (11, [.ref aG, .ref aP, .ref aH, .ref aY, .ref aT, .ref aS, .ref aF, .ref aX, .int (iI pr), .int (iI tk), .int (iI tol), .int (iI hou)])), (aT, .inr (9, [.ref aTp, .ref aTt, .ref aTx, .ref aTy, .ref aE, .int (iI ld)])), (aTt, .inl (gI g, 200, .inl (ar tt)))] H := by rw [hH]; exact hP
  have hS : va_S A s.heap H locs := by rw [hH, hlo]; exact hS
  have goal_ : W p l e { frames := 7, cells := 1, slots := 6, locals := 113 } s m args below meth c H locs 0 0 Q9 (F0 m 0 ls []) := by
    clear hH hlo
    refine lv_aload_n hx hb dX8_taperOf_0 rfl (lv_at hl 0 rfl) ?_
    refine lv_iload_n hx hb dX8_taperOf_1 rfl (lv_at hl 1 rfl) ?_
    refine x_callvX (S := Unit) (SX := Unit) (wc := [(aR, .inr (11, [.ref aG, .ref aP, .ref aH, .ref aY, .ref aT, .ref aS, .ref aF, .ref aX, .int (iI pr), .int (iI tk), .int (iI tol), .int (iI hou)])), (aT, .inr (9, [.ref aTp, .ref aTt, .ref aTx, .ref aTy, .ref aE, .int (iI ld)]))]) (wr := [(aTt, .inl (gI g, 200, .inl (ar tt)))]) hC hP hD hS hA [0, 1] [2] [1, 2, 0] rfl rfl (fun hpre => vx_runV (As := [.int (iI rg)]) (rest := []) ⟨hx, hb, hml, hown, hts⟩ (c_X8_checkLaid l hflags g H.size aR aG aP aH aY aT aS aF aX aTp aTt aTx aTy aE pr tk tol hou ld rg (by first | (first | assumption | omega | exact bnd_up (by assumption) (by omega) (by omega)) | fail "q8") (by first | (first | assumption | omega | exact bnd_up (by assumption) (by omega) (by omega)) | fail "q8")) (cwV 1 hts gX8_taperOf_X8_checkLaid rfl rfl rfl (by decide +kernel) ⟨Nat.le_of_ble_eq_true rfl, Nat.le_of_ble_eq_true rfl⟩) ⟨xB_blind, va_recv hK hP (ci := 11) (q0 := 0) rfl rfl, hpre _⟩ rfl rfl hl.1 rfl (lv_room (Nat.le_of_ble_eq_true rfl)) dX8_taperOf_2 ⟨Nat.le_of_ble_eq_true rfl, Nat.le_of_ble_eq_true rfl⟩) (fun (u : Unit) => [(aR, .inr (11, [.ref aG, .ref aP, .ref aH, .ref aY, .ref aT, .ref aS, .ref aF, .ref aX, .int (iI pr), .int (iI tk), .int (iI tol), .int (iI hou)])), (aT, .inr (9, [.ref aTp, .ref aTt, .ref aTx, .ref aTy, .ref aE, .int (iI ld)])), (aTt, .inl (gI g, 200, .inl (ar tt)))]) (fun (u : Unit) => ([(aR, .inr (11, [.ref aG, .ref aP, .ref aH, .ref aY, .ref aT, .ref aS, .ref aF, .ref aX, .int (iI pr), .int (iI tk), .int (iI tol), .int (iI hou)])), (aT, .inr (9, [.ref aTp, .ref aTt, .ref aTx, .ref aTy, .ref aE, .int (iI ld)])), (aTt, .inl (gI g, 200, .inl (ar tt)))] : va_W)) rfl rfl (by decide) (fun _ => rfl) (fun _ => rfl) rfl (fun E ce q9 u H locs hXP hPX hP hD hS hcell hv9 hcl => ?_) (fun u H locs hv_1 hP hD hS => ?_)
    · skip
      have hP : va_P (gD g) vwCl [(aR, .inr (11, [.ref aG, .ref aP, .ref aH, .ref aY, .ref aT, .ref aS, .ref aF, .ref aX, .int (iI pr), .int (iI tk), .int (iI tol), .int (iI hou)])), (aT, .inr (9, [.ref aTp, .ref aTt, .ref aTx, .ref aTy, .ref aE, .int (iI ld)])), (aTt, .inl (gI g, 200, .inl (ar tt)))] H := hP
      have hD : va_D A [(aR, .inr (11, [.ref aG, .ref aP, .ref aH, .ref aY, .ref aT, .ref aS, .ref aF, .ref aX, .int (iI pr), .int (iI tk), .int (iI tol), .int (iI hou)])), (aT, .inr (9, [.ref aTp, .ref aTt, .ref aTx, .ref aTy, .ref aE, .int (iI ld)])), (aTt, .inl (gI g, 200, .inl (ar tt)))] := hD
      obtain ⟨hE, hp⟩ := hPX
      have hp : ¬ (0 ≤ rg ∧ rg < ld) := hp
      subst hE
      rw [hQ9]
      exact x_out hout hlocks hP hD hS hcell hv9 hcl () trivial ⟨rfl, (by
          first
          | (
             unfold rgT
             omega)
          | fail "q9")⟩ rfl (Nat.le_of_ble_eq_true rfl) (Nat.le_of_ble_eq_true rfl)
    · skip
      have hP : va_P (gD g) vwCl [(aR, .inr (11, [.ref aG, .ref aP, .ref aH, .ref aY, .ref aT, .ref aS, .ref aF, .ref aX, .int (iI pr), .int (iI tk), .int (iI tol), .int (iI hou)])), (aT, .inr (9, [.ref aTp, .ref aTt, .ref aTx, .ref aTy, .ref aE, .int (iI ld)])), (aTt, .inl (gI g, 200, .inl (ar tt)))] H := hP
      have hD : va_D A [(aR, .inr (11, [.ref aG, .ref aP, .ref aH, .ref aY, .ref aT, .ref aS, .ref aF, .ref aX, .int (iI pr), .int (iI tk), .int (iI tol), .int (iI hou)])), (aT, .inr (9, [.ref aTp, .ref aTt, .ref aTx, .ref aTy, .ref aE, .int (iI ld)])), (aTt, .inl (gI g, 200, .inl (ar tt)))] := hD
      obtain ⟨tv_1, pv_1⟩ := hv_1
      have tv_1 : 0 ≤ rg ∧ rg < ld := tv_1
      refine lv_aload_n hx hb dX8_taperOf_5 rfl (lv_at hl 0 rfl) ?_
      refine va_get (D := gD g) (ci := 11) (v := .ref aT) (C := RX8) (T := TX8) (N := 12) hx hb hts hin8 hown hK hP 0 rfl rfl 4 (by decide) (hts (.fieldLink RX8 40 "TunnelRing" "tube" "LTunnelRing$Tube;") (List.mem_of_getElem? (i := 1) rfl)) (fun _ h9 => h9) rfl dX8_taperOf_6 ?_
      refine va_get (D := gD g) (ci := 9) (v := .ref aTt) (C := RX6) (T := TX6) (N := 6) hx hb hts hin6 hown hK hP 1 rfl rfl 1 (by decide) (hts (.fieldLink RX8 224 "TunnelRing$Tube" "taper" "[I") (List.mem_of_getElem? (i := 2) rfl)) (fun _ h9 => h9) rfl dX8_taperOf_9 ?_
      refine lv_iload_n hx hb dX8_taperOf_12 rfl (lv_at hl 1 rfl) ?_
      refine x_iald hx hb hK hP 2 0 rfl rfl (by omega) (by omega) (Nat.le_of_ble_eq_true rfl) dX8_taperOf_13 (fun v_2 hv_2 => ?_)
      have bv_2 : 0 ≤ v_2 ∧ v_2 ≤ 9 := by rw [hv_2]; exact hb_tt _
      rw [hQ9]
      exact vx_ret (x_iret hx hb hr hlocks hP hD hS (S := Unit) rfl dX8_taperOf_14 () (by
          first
          | (
             subst_vars
             first | rfl | (rw [gt0_in (by omega)]))
          | fail "q9") ⟨(by
          first
          | (
             unfold rgT
             omega)
          | fail "q9"), trivial⟩ rfl (Nat.le_of_ble_eq_true rfl) (Nat.le_of_ble_eq_true rfl))
  rw [hH, hlo, hQ9] at goal_
  exact goal_

set_option maxHeartbeats 4000000 in
set_option maxRecDepth 100000 in
theorem c_X8_xAfter (l : Launch) (hflags : l.stackTraces = false) (g : xg) (sz : Nat) (aR aG aP aH aY aT aS aF aX aTp aTt aTx aTy aE : Nat) (pr tk tol hou ld rg : Int) (kx : Int → Int) (hld : 0 ≤ ld ∧ ld ≤ 200) (hb_kx : bnd kx (-400000) 400000) (hr_rg : iR rg) : vx_Met l yX8_xAfter wsX8_xAfter { frames := 7, cells := 1, slots := 6, locals := 113 } (va_Pc [.ref aR, .int (iI rg)] (xB g [(aR, .inr (11, [.ref aG, .ref aP, .ref aH, .ref aY, .ref aT, .ref aS, .ref aF, .ref aX, .int (iI pr), .int (iI tk), .int (iI tol), .int (iI hou)])), (aT, .inr (9, [.ref aTp, .ref aTt, .ref aTx, .ref aTy, .ref aE, .int (iI ld)])), (aTx, .inl (gI g, 200, .inl (ar kx)))] sz)) (va_Qi (fun r u => r = iI ((fun (u : Unit) => gt0 ld kx rg) u) ∧ (fun (u : Unit) => (rgT ld rg = 0) ∧ (True)) u) (fun u t => xE g (va_A [(aR, .inr (11, [.ref aG, .ref aP, .ref aH, .ref aY, .ref aT, .ref aS, .ref aF, .ref aX, .int (iI pr), .int (iI tk), .int (iI tol), .int (iI hou)])), (aT, .inr (9, [.ref aTp, .ref aTt, .ref aTx, .ref aTy, .ref aE, .int (iI ld)])), (aTx, .inl (gI g, 200, .inl (ar kx)))] sz) ((fun (u : Unit) => [(aR, .inr (11, [.ref aG, .ref aP, .ref aH, .ref aY, .ref aT, .ref aS, .ref aF, .ref aX, .int (iI pr), .int (iI tk), .int (iI tol), .int (iI hou)])), (aT, .inr (9, [.ref aTp, .ref aTt, .ref aTx, .ref aTy, .ref aE, .int (iI ld)])), (aTx, .inl (gI g, 200, .inl (ar kx)))]) u) t) (va_A [(aR, .inr (11, [.ref aG, .ref aP, .ref aH, .ref aY, .ref aT, .ref aS, .ref aF, .ref aX, .int (iI pr), .int (iI tk), .int (iI tol), .int (iI hou)])), (aT, .inr (9, [.ref aTp, .ref aTt, .ref aTx, .ref aTy, .ref aE, .int (iI ld)])), (aTx, .inl (gI g, 200, .inl (ar kx)))] sz)) (xX g (va_A [(aR, .inr (11, [.ref aG, .ref aP, .ref aH, .ref aY, .ref aT, .ref aS, .ref aF, .ref aX, .int (iI pr), .int (iI tk), .int (iI tol), .int (iI hou)])), (aT, .inr (9, [.ref aTp, .ref aTt, .ref aTx, .ref aTy, .ref aE, .int (iI ld)])), (aTx, .inl (gI g, 200, .inl (ar kx)))] sz) (fun (u : Unit) => True) (fun E : String => (E = "java/lang/IndexOutOfBoundsException" ∧ (rgT ld rg = 1))) (fun (u : Unit) => ([(aR, .inr (11, [.ref aG, .ref aP, .ref aH, .ref aY, .ref aT, .ref aS, .ref aF, .ref aX, .int (iI pr), .int (iI tk), .int (iI tol), .int (iI hou)])), (aT, .inr (9, [.ref aTp, .ref aTt, .ref aTx, .ref aTy, .ref aE, .int (iI ld)])), (aTx, .inl (gI g, 200, .inl (ar kx)))] : va_W))) 1 6 (va_A [(aR, .inr (11, [.ref aG, .ref aP, .ref aH, .ref aY, .ref aT, .ref aS, .ref aF, .ref aX, .int (iI pr), .int (iI tk), .int (iI tol), .int (iI hou)])), (aT, .inr (9, [.ref aTp, .ref aTt, .ref aTx, .ref aTy, .ref aE, .int (iI ld)])), (aTx, .inl (gI g, 200, .inl (ar kx)))] sz) := by
  refine x_enterX (y := yX8_xAfter) (ws := wsX8_xAfter) (g := g) (sz := sz) (av := [.ref aR, .int (iI rg)]) (WS := [(aR, .inr (11, [.ref aG, .ref aP, .ref aH, .ref aY, .ref aT, .ref aS, .ref aF, .ref aX, .int (iI pr), .int (iI tk), .int (iI tol), .int (iI hou)])), (aT, .inr (9, [.ref aTp, .ref aTt, .ref aTx, .ref aTy, .ref aE, .int (iI ld)])), (aTx, .inl (gI g, 200, .inl (ar kx)))]) (cc := cX8_xAfter) (maxL := 2) (ret := some .int) (Qc := (fun A => (va_Qi (fun r u => r = iI ((fun (u : Unit) => gt0 ld kx rg) u) ∧ (fun (u : Unit) => (rgT ld rg = 0) ∧ (True)) u) (fun u t => xE g A ((fun (u : Unit) => [(aR, .inr (11, [.ref aG, .ref aP, .ref aH, .ref aY, .ref aT, .ref aS, .ref aF, .ref aX, .int (iI pr), .int (iI tk), .int (iI tol), .int (iI hou)])), (aT, .inr (9, [.ref aTp, .ref aTt, .ref aTx, .ref aTy, .ref aE, .int (iI ld)])), (aTx, .inl (gI g, 200, .inl (ar kx)))]) u) t) A))) (XC := (fun A => (xX g A (fun (u : Unit) => True) (fun E : String => (E = "java/lang/IndexOutOfBoundsException" ∧ (rgT ld rg = 1))) (fun (u : Unit) => ([(aR, .inr (11, [.ref aG, .ref aP, .ref aH, .ref aY, .ref aT, .ref aS, .ref aF, .ref aX, .int (iI pr), .int (iI tk), .int (iI tol), .int (iI hou)])), (aT, .inr (9, [.ref aTp, .ref aTt, .ref aTx, .ref aTy, .ref aE, .int (iI ld)])), (aTx, .inl (gI g, 200, .inl (ar kx)))] : va_W))))) (by decide) rfl (Nat.le_of_ble_eq_true rfl) ?_
  intro p e s m args below meth c A ls hx hb hr hml hown hts hlocks hout hC hP hD hS hA hl
  have hK := hC.1
  have hown : s.vm.findClass RX8 = some m.cls := hown
  have hin6 : ∀ w ∈ u_ws RX6 TX6 6, w ∈ wsX8_xAfter := by decide +kernel
  have hin8 : ∀ w ∈ u_ws RX8 TX8 12, w ∈ wsX8_xAfter := by decide +kernel
  have hl : lv_has ls 2 [(0, .ref aR), (1, .int (iI rg))] := hl
  obtain ⟨H, hH⟩ : ∃ z, z = s.heap := ⟨_, rfl⟩
  obtain ⟨locs, hlo⟩ : ∃ z : List Loc, z = [] := ⟨_, rfl⟩
  obtain ⟨Q9, hQ9⟩ : ∃ z, z = vx_MQ below (va_Qi (fun r u => r = iI ((fun (u : Unit) => gt0 ld kx rg) u) ∧ (fun (u : Unit) => (rgT ld rg = 0) ∧ (True)) u) (fun u t => xE g A ((fun (u : Unit) => [(aR, .inr (11, [.ref aG, .ref aP, .ref aH, .ref aY, .ref aT, .ref aS, .ref aF, .ref aX, .int (iI pr), .int (iI tk), .int (iI tol), .int (iI hou)])), (aT, .inr (9, [.ref aTp, .ref aTt, .ref aTx, .ref aTy, .ref aE, .int (iI ld)])), (aTx, .inl (gI g, 200, .inl (ar kx)))]) u) t) A) (xX g A (fun (u : Unit) => True) (fun E : String => (E = "java/lang/IndexOutOfBoundsException" ∧ (rgT ld rg = 1))) (fun (u : Unit) => ([(aR, .inr (11, [.ref aG, .ref aP, .ref aH, .ref aY, .ref aT, .ref aS, .ref aF, .ref aX, .int (iI pr), .int (iI tk), .int (iI tol), .int (iI hou)])), (aT, .inr (9, [.ref aTp, .ref aTt, .ref aTx, .ref aTy, .ref aE, .int (iI ld)])), (aTx, .inl (gI g, 200, .inl (ar kx)))] : va_W))) args s 1 6 A := ⟨_, rfl⟩
  have hP : va_P (gD g) vwCl [(aR, .inr (11, [.ref aG, .ref aP, .ref aH, .ref aY, .ref aT, .ref aS, .ref aF, .ref aX, .int (iI pr), .int (iI tk), .int (iI tol), .int (iI hou)])), (aT, .inr (9, [.ref aTp, .ref aTt, .ref aTx, .ref aTy, .ref aE, .int (iI ld)])), (aTx, .inl (gI g, 200, .inl (ar kx)))] H := by rw [hH]; exact hP
  have hS : va_S A s.heap H locs := by rw [hH, hlo]; exact hS
  have goal_ : W p l e { frames := 7, cells := 1, slots := 6, locals := 113 } s m args below meth c H locs 0 0 Q9 (F0 m 0 ls []) := by
    clear hH hlo
    refine lv_aload_n hx hb dX8_xAfter_0 rfl (lv_at hl 0 rfl) ?_
    refine lv_iload_n hx hb dX8_xAfter_1 rfl (lv_at hl 1 rfl) ?_
    refine x_callvX (S := Unit) (SX := Unit) (wc := [(aR, .inr (11, [.ref aG, .ref aP, .ref aH, .ref aY, .ref aT, .ref aS, .ref aF, .ref aX, .int (iI pr), .int (iI tk), .int (iI tol), .int (iI hou)])), (aT, .inr (9, [.ref aTp, .ref aTt, .ref aTx, .ref aTy, .ref aE, .int (iI ld)]))]) (wr := [(aTx, .inl (gI g, 200, .inl (ar kx)))]) hC hP hD hS hA [0, 1] [2] [1, 2, 0] rfl rfl (fun hpre => vx_runV (As := [.int (iI rg)]) (rest := []) ⟨hx, hb, hml, hown, hts⟩ (c_X8_checkLaid l hflags g H.size aR aG aP aH aY aT aS aF aX aTp aTt aTx aTy aE pr tk tol hou ld rg (by first | (first | assumption | omega | exact bnd_up (by assumption) (by omega) (by omega)) | fail "q8") (by first | (first | assumption | omega | exact bnd_up (by assumption) (by omega) (by omega)) | fail "q8")) (cwV 1 hts gX8_xAfter_X8_checkLaid rfl rfl rfl (by decide +kernel) ⟨Nat.le_of_ble_eq_true rfl, Nat.le_of_ble_eq_true rfl⟩) ⟨xB_blind, va_recv hK hP (ci := 11) (q0 := 0) rfl rfl, hpre _⟩ rfl rfl hl.1 rfl (lv_room (Nat.le_of_ble_eq_true rfl)) dX8_xAfter_2 ⟨Nat.le_of_ble_eq_true rfl, Nat.le_of_ble_eq_true rfl⟩) (fun (u : Unit) => [(aR, .inr (11, [.ref aG, .ref aP, .ref aH, .ref aY, .ref aT, .ref aS, .ref aF, .ref aX, .int (iI pr), .int (iI tk), .int (iI tol), .int (iI hou)])), (aT, .inr (9, [.ref aTp, .ref aTt, .ref aTx, .ref aTy, .ref aE, .int (iI ld)])), (aTx, .inl (gI g, 200, .inl (ar kx)))]) (fun (u : Unit) => ([(aR, .inr (11, [.ref aG, .ref aP, .ref aH, .ref aY, .ref aT, .ref aS, .ref aF, .ref aX, .int (iI pr), .int (iI tk), .int (iI tol), .int (iI hou)])), (aT, .inr (9, [.ref aTp, .ref aTt, .ref aTx, .ref aTy, .ref aE, .int (iI ld)])), (aTx, .inl (gI g, 200, .inl (ar kx)))] : va_W)) rfl rfl (by decide) (fun _ => rfl) (fun _ => rfl) rfl (fun E ce q9 u H locs hXP hPX hP hD hS hcell hv9 hcl => ?_) (fun u H locs hv_1 hP hD hS => ?_)
    · skip
      have hP : va_P (gD g) vwCl [(aR, .inr (11, [.ref aG, .ref aP, .ref aH, .ref aY, .ref aT, .ref aS, .ref aF, .ref aX, .int (iI pr), .int (iI tk), .int (iI tol), .int (iI hou)])), (aT, .inr (9, [.ref aTp, .ref aTt, .ref aTx, .ref aTy, .ref aE, .int (iI ld)])), (aTx, .inl (gI g, 200, .inl (ar kx)))] H := hP
      have hD : va_D A [(aR, .inr (11, [.ref aG, .ref aP, .ref aH, .ref aY, .ref aT, .ref aS, .ref aF, .ref aX, .int (iI pr), .int (iI tk), .int (iI tol), .int (iI hou)])), (aT, .inr (9, [.ref aTp, .ref aTt, .ref aTx, .ref aTy, .ref aE, .int (iI ld)])), (aTx, .inl (gI g, 200, .inl (ar kx)))] := hD
      obtain ⟨hE, hp⟩ := hPX
      have hp : ¬ (0 ≤ rg ∧ rg < ld) := hp
      subst hE
      rw [hQ9]
      exact x_out hout hlocks hP hD hS hcell hv9 hcl () trivial ⟨rfl, (by
          first
          | (
             unfold rgT
             omega)
          | fail "q9")⟩ rfl (Nat.le_of_ble_eq_true rfl) (Nat.le_of_ble_eq_true rfl)
    · skip
      have hP : va_P (gD g) vwCl [(aR, .inr (11, [.ref aG, .ref aP, .ref aH, .ref aY, .ref aT, .ref aS, .ref aF, .ref aX, .int (iI pr), .int (iI tk), .int (iI tol), .int (iI hou)])), (aT, .inr (9, [.ref aTp, .ref aTt, .ref aTx, .ref aTy, .ref aE, .int (iI ld)])), (aTx, .inl (gI g, 200, .inl (ar kx)))] H := hP
      have hD : va_D A [(aR, .inr (11, [.ref aG, .ref aP, .ref aH, .ref aY, .ref aT, .ref aS, .ref aF, .ref aX, .int (iI pr), .int (iI tk), .int (iI tol), .int (iI hou)])), (aT, .inr (9, [.ref aTp, .ref aTt, .ref aTx, .ref aTy, .ref aE, .int (iI ld)])), (aTx, .inl (gI g, 200, .inl (ar kx)))] := hD
      obtain ⟨tv_1, pv_1⟩ := hv_1
      have tv_1 : 0 ≤ rg ∧ rg < ld := tv_1
      refine lv_aload_n hx hb dX8_xAfter_5 rfl (lv_at hl 0 rfl) ?_
      refine va_get (D := gD g) (ci := 11) (v := .ref aT) (C := RX8) (T := TX8) (N := 12) hx hb hts hin8 hown hK hP 0 rfl rfl 4 (by decide) (hts (.fieldLink RX8 40 "TunnelRing" "tube" "LTunnelRing$Tube;") (List.mem_of_getElem? (i := 1) rfl)) (fun _ h9 => h9) rfl dX8_xAfter_6 ?_
      refine va_get (D := gD g) (ci := 9) (v := .ref aTx) (C := RX6) (T := TX6) (N := 6) hx hb hts hin6 hown hK hP 1 rfl rfl 2 (by decide) (hts (.fieldLink RX8 227 "TunnelRing$Tube" "keptX" "[I") (List.mem_of_getElem? (i := 2) rfl)) (fun _ h9 => h9) rfl dX8_xAfter_9 ?_
      refine lv_iload_n hx hb dX8_xAfter_12 rfl (lv_at hl 1 rfl) ?_
      refine x_iald hx hb hK hP 2 0 rfl rfl (by omega) (by omega) (Nat.le_of_ble_eq_true rfl) dX8_xAfter_13 (fun v_2 hv_2 => ?_)
      have bv_2 : (-400000) ≤ v_2 ∧ v_2 ≤ 400000 := by rw [hv_2]; exact hb_kx _
      rw [hQ9]
      exact vx_ret (x_iret hx hb hr hlocks hP hD hS (S := Unit) rfl dX8_xAfter_14 () (by
          first
          | (
             subst_vars
             first | rfl | (rw [gt0_in (by omega)]))
          | fail "q9") ⟨(by
          first
          | (
             unfold rgT
             omega)
          | fail "q9"), trivial⟩ rfl (Nat.le_of_ble_eq_true rfl) (Nat.le_of_ble_eq_true rfl))
  rw [hH, hlo, hQ9] at goal_
  exact goal_

set_option maxHeartbeats 4000000 in
set_option maxRecDepth 100000 in
theorem c_X8_yAfter (l : Launch) (hflags : l.stackTraces = false) (g : xg) (sz : Nat) (aR aG aP aH aY aT aS aF aX aTp aTt aTx aTy aE : Nat) (pr tk tol hou ld rg : Int) (ky : Int → Int) (hld : 0 ≤ ld ∧ ld ≤ 200) (hb_ky : bnd ky (-400000) 400000) (hr_rg : iR rg) : vx_Met l yX8_yAfter wsX8_yAfter { frames := 7, cells := 1, slots := 6, locals := 113 } (va_Pc [.ref aR, .int (iI rg)] (xB g [(aR, .inr (11, [.ref aG, .ref aP, .ref aH, .ref aY, .ref aT, .ref aS, .ref aF, .ref aX, .int (iI pr), .int (iI tk), .int (iI tol), .int (iI hou)])), (aT, .inr (9, [.ref aTp, .ref aTt, .ref aTx, .ref aTy, .ref aE, .int (iI ld)])), (aTy, .inl (gI g, 200, .inl (ar ky)))] sz)) (va_Qi (fun r u => r = iI ((fun (u : Unit) => gt0 ld ky rg) u) ∧ (fun (u : Unit) => (rgT ld rg = 0) ∧ (True)) u) (fun u t => xE g (va_A [(aR, .inr (11, [.ref aG, .ref aP, .ref aH, .ref aY, .ref aT, .ref aS, .ref aF, .ref aX, .int (iI pr), .int (iI tk), .int (iI tol), .int (iI hou)])), (aT, .inr (9, [.ref aTp, .ref aTt, .ref aTx, .ref aTy, .ref aE, .int (iI ld)])), (aTy, .inl (gI g, 200, .inl (ar ky)))] sz) ((fun (u : Unit) => [(aR, .inr (11, [.ref aG, .ref aP, .ref aH, .ref aY, .ref aT, .ref aS, .ref aF, .ref aX, .int (iI pr), .int (iI tk), .int (iI tol), .int (iI hou)])), (aT, .inr (9, [.ref aTp, .ref aTt, .ref aTx, .ref aTy, .ref aE, .int (iI ld)])), (aTy, .inl (gI g, 200, .inl (ar ky)))]) u) t) (va_A [(aR, .inr (11, [.ref aG, .ref aP, .ref aH, .ref aY, .ref aT, .ref aS, .ref aF, .ref aX, .int (iI pr), .int (iI tk), .int (iI tol), .int (iI hou)])), (aT, .inr (9, [.ref aTp, .ref aTt, .ref aTx, .ref aTy, .ref aE, .int (iI ld)])), (aTy, .inl (gI g, 200, .inl (ar ky)))] sz)) (xX g (va_A [(aR, .inr (11, [.ref aG, .ref aP, .ref aH, .ref aY, .ref aT, .ref aS, .ref aF, .ref aX, .int (iI pr), .int (iI tk), .int (iI tol), .int (iI hou)])), (aT, .inr (9, [.ref aTp, .ref aTt, .ref aTx, .ref aTy, .ref aE, .int (iI ld)])), (aTy, .inl (gI g, 200, .inl (ar ky)))] sz) (fun (u : Unit) => True) (fun E : String => (E = "java/lang/IndexOutOfBoundsException" ∧ (rgT ld rg = 1))) (fun (u : Unit) => ([(aR, .inr (11, [.ref aG, .ref aP, .ref aH, .ref aY, .ref aT, .ref aS, .ref aF, .ref aX, .int (iI pr), .int (iI tk), .int (iI tol), .int (iI hou)])), (aT, .inr (9, [.ref aTp, .ref aTt, .ref aTx, .ref aTy, .ref aE, .int (iI ld)])), (aTy, .inl (gI g, 200, .inl (ar ky)))] : va_W))) 1 6 (va_A [(aR, .inr (11, [.ref aG, .ref aP, .ref aH, .ref aY, .ref aT, .ref aS, .ref aF, .ref aX, .int (iI pr), .int (iI tk), .int (iI tol), .int (iI hou)])), (aT, .inr (9, [.ref aTp, .ref aTt, .ref aTx, .ref aTy, .ref aE, .int (iI ld)])), (aTy, .inl (gI g, 200, .inl (ar ky)))] sz) := by
  refine x_enterX (y := yX8_yAfter) (ws := wsX8_yAfter) (g := g) (sz := sz) (av := [.ref aR, .int (iI rg)]) (WS := [(aR, .inr (11, [.ref aG, .ref aP, .ref aH, .ref aY, .ref aT, .ref aS, .ref aF, .ref aX, .int (iI pr), .int (iI tk), .int (iI tol), .int (iI hou)])), (aT, .inr (9, [.ref aTp, .ref aTt, .ref aTx, .ref aTy, .ref aE, .int (iI ld)])), (aTy, .inl (gI g, 200, .inl (ar ky)))]) (cc := cX8_yAfter) (maxL := 2) (ret := some .int) (Qc := (fun A => (va_Qi (fun r u => r = iI ((fun (u : Unit) => gt0 ld ky rg) u) ∧ (fun (u : Unit) => (rgT ld rg = 0) ∧ (True)) u) (fun u t => xE g A ((fun (u : Unit) => [(aR, .inr (11, [.ref aG, .ref aP, .ref aH, .ref aY, .ref aT, .ref aS, .ref aF, .ref aX, .int (iI pr), .int (iI tk), .int (iI tol), .int (iI hou)])), (aT, .inr (9, [.ref aTp, .ref aTt, .ref aTx, .ref aTy, .ref aE, .int (iI ld)])), (aTy, .inl (gI g, 200, .inl (ar ky)))]) u) t) A))) (XC := (fun A => (xX g A (fun (u : Unit) => True) (fun E : String => (E = "java/lang/IndexOutOfBoundsException" ∧ (rgT ld rg = 1))) (fun (u : Unit) => ([(aR, .inr (11, [.ref aG, .ref aP, .ref aH, .ref aY, .ref aT, .ref aS, .ref aF, .ref aX, .int (iI pr), .int (iI tk), .int (iI tol), .int (iI hou)])), (aT, .inr (9, [.ref aTp, .ref aTt, .ref aTx, .ref aTy, .ref aE, .int (iI ld)])), (aTy, .inl (gI g, 200, .inl (ar ky)))] : va_W))))) (by decide) rfl (Nat.le_of_ble_eq_true rfl) ?_
  intro p e s m args below meth c A ls hx hb hr hml hown hts hlocks hout hC hP hD hS hA hl
  have hK := hC.1
  have hown : s.vm.findClass RX8 = some m.cls := hown
  have hin6 : ∀ w ∈ u_ws RX6 TX6 6, w ∈ wsX8_yAfter := by decide +kernel
  have hin8 : ∀ w ∈ u_ws RX8 TX8 12, w ∈ wsX8_yAfter := by decide +kernel
  have hl : lv_has ls 2 [(0, .ref aR), (1, .int (iI rg))] := hl
  obtain ⟨H, hH⟩ : ∃ z, z = s.heap := ⟨_, rfl⟩
  obtain ⟨locs, hlo⟩ : ∃ z : List Loc, z = [] := ⟨_, rfl⟩
  obtain ⟨Q9, hQ9⟩ : ∃ z, z = vx_MQ below (va_Qi (fun r u => r = iI ((fun (u : Unit) => gt0 ld ky rg) u) ∧ (fun (u : Unit) => (rgT ld rg = 0) ∧ (True)) u) (fun u t => xE g A ((fun (u : Unit) => [(aR, .inr (11, [.ref aG, .ref aP, .ref aH, .ref aY, .ref aT, .ref aS, .ref aF, .ref aX, .int (iI pr), .int (iI tk), .int (iI tol), .int (iI hou)])), (aT, .inr (9, [.ref aTp, .ref aTt, .ref aTx, .ref aTy, .ref aE, .int (iI ld)])), (aTy, .inl (gI g, 200, .inl (ar ky)))]) u) t) A) (xX g A (fun (u : Unit) => True) (fun E : String => (E = "java/lang/IndexOutOfBoundsException" ∧ (rgT ld rg = 1))) (fun (u : Unit) => ([(aR, .inr (11, [.ref aG, .ref aP, .ref aH, .ref aY, .ref aT, .ref aS, .ref aF, .ref aX, .int (iI pr), .int (iI tk), .int (iI tol), .int (iI hou)])), (aT, .inr (9, [.ref aTp, .ref aTt, .ref aTx, .ref aTy, .ref aE, .int (iI ld)])), (aTy, .inl (gI g, 200, .inl (ar ky)))] : va_W))) args s 1 6 A := ⟨_, rfl⟩
  have hP : va_P (gD g) vwCl [(aR, .inr (11, [.ref aG, .ref aP, .ref aH, .ref aY, .ref aT, .ref aS, .ref aF, .ref aX, .int (iI pr), .int (iI tk), .int (iI tol), .int (iI hou)])), (aT, .inr (9, [.ref aTp, .ref aTt, .ref aTx, .ref aTy, .ref aE, .int (iI ld)])), (aTy, .inl (gI g, 200, .inl (ar ky)))] H := by rw [hH]; exact hP
  have hS : va_S A s.heap H locs := by rw [hH, hlo]; exact hS
  have goal_ : W p l e { frames := 7, cells := 1, slots := 6, locals := 113 } s m args below meth c H locs 0 0 Q9 (F0 m 0 ls []) := by
    clear hH hlo
    refine lv_aload_n hx hb dX8_yAfter_0 rfl (lv_at hl 0 rfl) ?_
    refine lv_iload_n hx hb dX8_yAfter_1 rfl (lv_at hl 1 rfl) ?_
    refine x_callvX (S := Unit) (SX := Unit) (wc := [(aR, .inr (11, [.ref aG, .ref aP, .ref aH, .ref aY, .ref aT, .ref aS, .ref aF, .ref aX, .int (iI pr), .int (iI tk), .int (iI tol), .int (iI hou)])), (aT, .inr (9, [.ref aTp, .ref aTt, .ref aTx, .ref aTy, .ref aE, .int (iI ld)]))]) (wr := [(aTy, .inl (gI g, 200, .inl (ar ky)))]) hC hP hD hS hA [0, 1] [2] [1, 2, 0] rfl rfl (fun hpre => vx_runV (As := [.int (iI rg)]) (rest := []) ⟨hx, hb, hml, hown, hts⟩ (c_X8_checkLaid l hflags g H.size aR aG aP aH aY aT aS aF aX aTp aTt aTx aTy aE pr tk tol hou ld rg (by first | (first | assumption | omega | exact bnd_up (by assumption) (by omega) (by omega)) | fail "q8") (by first | (first | assumption | omega | exact bnd_up (by assumption) (by omega) (by omega)) | fail "q8")) (cwV 1 hts gX8_yAfter_X8_checkLaid rfl rfl rfl (by decide +kernel) ⟨Nat.le_of_ble_eq_true rfl, Nat.le_of_ble_eq_true rfl⟩) ⟨xB_blind, va_recv hK hP (ci := 11) (q0 := 0) rfl rfl, hpre _⟩ rfl rfl hl.1 rfl (lv_room (Nat.le_of_ble_eq_true rfl)) dX8_yAfter_2 ⟨Nat.le_of_ble_eq_true rfl, Nat.le_of_ble_eq_true rfl⟩) (fun (u : Unit) => [(aR, .inr (11, [.ref aG, .ref aP, .ref aH, .ref aY, .ref aT, .ref aS, .ref aF, .ref aX, .int (iI pr), .int (iI tk), .int (iI tol), .int (iI hou)])), (aT, .inr (9, [.ref aTp, .ref aTt, .ref aTx, .ref aTy, .ref aE, .int (iI ld)])), (aTy, .inl (gI g, 200, .inl (ar ky)))]) (fun (u : Unit) => ([(aR, .inr (11, [.ref aG, .ref aP, .ref aH, .ref aY, .ref aT, .ref aS, .ref aF, .ref aX, .int (iI pr), .int (iI tk), .int (iI tol), .int (iI hou)])), (aT, .inr (9, [.ref aTp, .ref aTt, .ref aTx, .ref aTy, .ref aE, .int (iI ld)])), (aTy, .inl (gI g, 200, .inl (ar ky)))] : va_W)) rfl rfl (by decide) (fun _ => rfl) (fun _ => rfl) rfl (fun E ce q9 u H locs hXP hPX hP hD hS hcell hv9 hcl => ?_) (fun u H locs hv_1 hP hD hS => ?_)
    · skip
      have hP : va_P (gD g) vwCl [(aR, .inr (11, [.ref aG, .ref aP, .ref aH, .ref aY, .ref aT, .ref aS, .ref aF, .ref aX, .int (iI pr), .int (iI tk), .int (iI tol), .int (iI hou)])), (aT, .inr (9, [.ref aTp, .ref aTt, .ref aTx, .ref aTy, .ref aE, .int (iI ld)])), (aTy, .inl (gI g, 200, .inl (ar ky)))] H := hP
      have hD : va_D A [(aR, .inr (11, [.ref aG, .ref aP, .ref aH, .ref aY, .ref aT, .ref aS, .ref aF, .ref aX, .int (iI pr), .int (iI tk), .int (iI tol), .int (iI hou)])), (aT, .inr (9, [.ref aTp, .ref aTt, .ref aTx, .ref aTy, .ref aE, .int (iI ld)])), (aTy, .inl (gI g, 200, .inl (ar ky)))] := hD
      obtain ⟨hE, hp⟩ := hPX
      have hp : ¬ (0 ≤ rg ∧ rg < ld) := hp
      subst hE
      rw [hQ9]
      exact x_out hout hlocks hP hD hS hcell hv9 hcl () trivial ⟨rfl, (by
          first
          | (
             unfold rgT
             omega)
          | fail "q9")⟩ rfl (Nat.le_of_ble_eq_true rfl) (Nat.le_of_ble_eq_true rfl)
    · skip
      have hP : va_P (gD g) vwCl [(aR, .inr (11, [.ref aG, .ref aP, .ref aH, .ref aY, .ref aT, .ref aS, .ref aF, .ref aX, .int (iI pr), .int (iI tk), .int (iI tol), .int (iI hou)])), (aT, .inr (9, [.ref aTp, .ref aTt, .ref aTx, .ref aTy, .ref aE, .int (iI ld)])), (aTy, .inl (gI g, 200, .inl (ar ky)))] H := hP
      have hD : va_D A [(aR, .inr (11, [.ref aG, .ref aP, .ref aH, .ref aY, .ref aT, .ref aS, .ref aF, .ref aX, .int (iI pr), .int (iI tk), .int (iI tol), .int (iI hou)])), (aT, .inr (9, [.ref aTp, .ref aTt, .ref aTx, .ref aTy, .ref aE, .int (iI ld)])), (aTy, .inl (gI g, 200, .inl (ar ky)))] := hD
      obtain ⟨tv_1, pv_1⟩ := hv_1
      have tv_1 : 0 ≤ rg ∧ rg < ld := tv_1
      refine lv_aload_n hx hb dX8_yAfter_5 rfl (lv_at hl 0 rfl) ?_
      refine va_get (D := gD g) (ci := 11) (v := .ref aT) (C := RX8) (T := TX8) (N := 12) hx hb hts hin8 hown hK hP 0 rfl rfl 4 (by decide) (hts (.fieldLink RX8 40 "TunnelRing" "tube" "LTunnelRing$Tube;") (List.mem_of_getElem? (i := 1) rfl)) (fun _ h9 => h9) rfl dX8_yAfter_6 ?_
      refine va_get (D := gD g) (ci := 9) (v := .ref aTy) (C := RX6) (T := TX6) (N := 6) hx hb hts hin6 hown hK hP 1 rfl rfl 3 (by decide) (hts (.fieldLink RX8 230 "TunnelRing$Tube" "keptY" "[I") (List.mem_of_getElem? (i := 2) rfl)) (fun _ h9 => h9) rfl dX8_yAfter_9 ?_
      refine lv_iload_n hx hb dX8_yAfter_12 rfl (lv_at hl 1 rfl) ?_
      refine x_iald hx hb hK hP 2 0 rfl rfl (by omega) (by omega) (Nat.le_of_ble_eq_true rfl) dX8_yAfter_13 (fun v_2 hv_2 => ?_)
      have bv_2 : (-400000) ≤ v_2 ∧ v_2 ≤ 400000 := by rw [hv_2]; exact hb_ky _
      rw [hQ9]
      exact vx_ret (x_iret hx hb hr hlocks hP hD hS (S := Unit) rfl dX8_yAfter_14 () (by
          first
          | (
             subst_vars
             first | rfl | (rw [gt0_in (by omega)]))
          | fail "q9") ⟨(by
          first
          | (
             unfold rgT
             omega)
          | fail "q9"), trivial⟩ rfl (Nat.le_of_ble_eq_true rfl) (Nat.le_of_ble_eq_true rfl))
  rw [hH, hlo, hQ9] at goal_
  exact goal_

set_option maxHeartbeats 4000000 in
set_option maxRecDepth 100000 in
theorem c_X8_addHouse (l : Launch) (hflags : l.stackTraces = false) (g : xg) (sz : Nat) (aR aG aP aH aY aT aS aF aX aGn aGw aGs aHf aHl aHm aHr aHp : Nat) (pr tk tol hou kn bu fr lr nl nr : Int) (fi la li ra : Int → Int) (hkn : 0 ≤ kn ∧ kn ≤ 200) (hbu : 0 ≤ bu ∧ bu ≤ 8) (hr_fr : iR fr) (hr_lr : iR lr) (hr_nl : iR nl) (hr_nr : iR nr) : vx_Met l yX8_addHouse wsX8_addHouse { frames := 7, cells := 5, slots := 30, locals := 114 } (va_Pc [.ref aR, .int (iI fr), .int (iI lr), .int (iI nl), .int (iI nr)] (xB g [(aR, .inr (11, [.ref aG, .ref aP, .ref aH, .ref aY, .ref aT, .ref aS, .ref aF, .ref aX, .int (iI pr), .int (iI tk), .int (iI tol), .int (iI hou)])), (aG, .inr (4, [.ref aGn, .ref aGw, .ref aGs, .int (iI kn)])), (aH, .inr (5, [.ref aHf, .ref aHl, .ref aHm, .ref aHr, .ref aHp, .int (iI bu)])), (aHf, .inl (gI g, 8, .inl (ar fi))), (aHl, .inl (gI g, 8, .inl (ar la))), (aHm, .inl (gI g, 8, .inl (ar li))), (aHr, .inl (gI g, 8, .inl (ar ra)))] sz)) (va_Qi (fun r u => r = iI ((fun (u : Unit) => bu) u) ∧ (fun (u : Unit) => (ahT kn bu fr lr nl nr = 0) ∧ (True)) u) (fun u t => xE g (va_A [(aR, .inr (11, [.ref aG, .ref aP, .ref aH, .ref aY, .ref aT, .ref aS, .ref aF, .ref aX, .int (iI pr), .int (iI tk), .int (iI tol), .int (iI hou)])), (aG, .inr (4, [.ref aGn, .ref aGw, .ref aGs, .int (iI kn)])), (aH, .inr (5, [.ref aHf, .ref aHl, .ref aHm, .ref aHr, .ref aHp, .int (iI bu)])), (aHf, .inl (gI g, 8, .inl (ar fi))), (aHl, .inl (gI g, 8, .inl (ar la))), (aHm, .inl (gI g, 8, .inl (ar li))), (aHr, .inl (gI g, 8, .inl (ar ra)))] sz) ((fun (u : Unit) => [(aR, .inr (11, [.ref aG, .ref aP, .ref aH, .ref aY, .ref aT, .ref aS, .ref aF, .ref aX, .int (iI pr), .int (iI tk), .int (iI tol), .int (iI hou)])), (aG, .inr (4, [.ref aGn, .ref aGw, .ref aGs, .int (iI kn)])), (aH, .inr (5, [.ref aHf, .ref aHl, .ref aHm, .ref aHr, .ref aHp, .int (iI (bu + 1))])), (aHf, .inl (gI g, 8, .inl (ar (up fi bu fr)))), (aHl, .inl (gI g, 8, .inl (ar (up la bu lr)))), (aHm, .inl (gI g, 8, .inl (ar (up li bu nl)))), (aHr, .inl (gI g, 8, .inl (ar (up ra bu nr))))]) u) t) (va_A [(aR, .inr (11, [.ref aG, .ref aP, .ref aH, .ref aY, .ref aT, .ref aS, .ref aF, .ref aX, .int (iI pr), .int (iI tk), .int (iI tol), .int (iI hou)])), (aG, .inr (4, [.ref aGn, .ref aGw, .ref aGs, .int (iI kn)])), (aH, .inr (5, [.ref aHf, .ref aHl, .ref aHm, .ref aHr, .ref aHp, .int (iI bu)])), (aHf, .inl (gI g, 8, .inl (ar fi))), (aHl, .inl (gI g, 8, .inl (ar la))), (aHm, .inl (gI g, 8, .inl (ar li))), (aHr, .inl (gI g, 8, .inl (ar ra)))] sz)) (xX g (va_A [(aR, .inr (11, [.ref aG, .ref aP, .ref aH, .ref aY, .ref aT, .ref aS, .ref aF, .ref aX, .int (iI pr), .int (iI tk), .int (iI tol), .int (iI hou)])), (aG, .inr (4, [.ref aGn, .ref aGw, .ref aGs, .int (iI kn)])), (aH, .inr (5, [.ref aHf, .ref aHl, .ref aHm, .ref aHr, .ref aHp, .int (iI bu)])), (aHf, .inl (gI g, 8, .inl (ar fi))), (aHl, .inl (gI g, 8, .inl (ar la))), (aHm, .inl (gI g, 8, .inl (ar li))), (aHr, .inl (gI g, 8, .inl (ar ra)))] sz) (fun (u : Unit) => True) (fun E : String => (E = "java/lang/IndexOutOfBoundsException" ∧ (ahT kn bu fr lr nl nr = 1)) ∨ (E = "java/lang/IllegalArgumentException" ∧ (ahT kn bu fr lr nl nr = 2)) ∨ (E = "java/lang/IllegalStateException" ∧ (ahT kn bu fr lr nl nr = 3))) (fun (u : Unit) => ([(aR, .inr (11, [.ref aG, .ref aP, .ref aH, .ref aY, .ref aT, .ref aS, .ref aF, .ref aX, .int (iI pr), .int (iI tk), .int (iI tol), .int (iI hou)])), (aG, .inr (4, [.ref aGn, .ref aGw, .ref aGs, .int (iI kn)])), (aH, .inr (5, [.ref aHf, .ref aHl, .ref aHm, .ref aHr, .ref aHp, .int (iI bu)])), (aHf, .inl (gI g, 8, .inl (ar fi))), (aHl, .inl (gI g, 8, .inl (ar la))), (aHm, .inl (gI g, 8, .inl (ar li))), (aHr, .inl (gI g, 8, .inl (ar ra)))] : va_W))) 5 30 (va_A [(aR, .inr (11, [.ref aG, .ref aP, .ref aH, .ref aY, .ref aT, .ref aS, .ref aF, .ref aX, .int (iI pr), .int (iI tk), .int (iI tol), .int (iI hou)])), (aG, .inr (4, [.ref aGn, .ref aGw, .ref aGs, .int (iI kn)])), (aH, .inr (5, [.ref aHf, .ref aHl, .ref aHm, .ref aHr, .ref aHp, .int (iI bu)])), (aHf, .inl (gI g, 8, .inl (ar fi))), (aHl, .inl (gI g, 8, .inl (ar la))), (aHm, .inl (gI g, 8, .inl (ar li))), (aHr, .inl (gI g, 8, .inl (ar ra)))] sz) := by
  refine x_enterX (y := yX8_addHouse) (ws := wsX8_addHouse) (g := g) (sz := sz) (av := [.ref aR, .int (iI fr), .int (iI lr), .int (iI nl), .int (iI nr)]) (WS := [(aR, .inr (11, [.ref aG, .ref aP, .ref aH, .ref aY, .ref aT, .ref aS, .ref aF, .ref aX, .int (iI pr), .int (iI tk), .int (iI tol), .int (iI hou)])), (aG, .inr (4, [.ref aGn, .ref aGw, .ref aGs, .int (iI kn)])), (aH, .inr (5, [.ref aHf, .ref aHl, .ref aHm, .ref aHr, .ref aHp, .int (iI bu)])), (aHf, .inl (gI g, 8, .inl (ar fi))), (aHl, .inl (gI g, 8, .inl (ar la))), (aHm, .inl (gI g, 8, .inl (ar li))), (aHr, .inl (gI g, 8, .inl (ar ra)))]) (cc := cX8_addHouse) (maxL := 5) (ret := some .int) (Qc := (fun A => (va_Qi (fun r u => r = iI ((fun (u : Unit) => bu) u) ∧ (fun (u : Unit) => (ahT kn bu fr lr nl nr = 0) ∧ (True)) u) (fun u t => xE g A ((fun (u : Unit) => [(aR, .inr (11, [.ref aG, .ref aP, .ref aH, .ref aY, .ref aT, .ref aS, .ref aF, .ref aX, .int (iI pr), .int (iI tk), .int (iI tol), .int (iI hou)])), (aG, .inr (4, [.ref aGn, .ref aGw, .ref aGs, .int (iI kn)])), (aH, .inr (5, [.ref aHf, .ref aHl, .ref aHm, .ref aHr, .ref aHp, .int (iI (bu + 1))])), (aHf, .inl (gI g, 8, .inl (ar (up fi bu fr)))), (aHl, .inl (gI g, 8, .inl (ar (up la bu lr)))), (aHm, .inl (gI g, 8, .inl (ar (up li bu nl)))), (aHr, .inl (gI g, 8, .inl (ar (up ra bu nr))))]) u) t) A))) (XC := (fun A => (xX g A (fun (u : Unit) => True) (fun E : String => (E = "java/lang/IndexOutOfBoundsException" ∧ (ahT kn bu fr lr nl nr = 1)) ∨ (E = "java/lang/IllegalArgumentException" ∧ (ahT kn bu fr lr nl nr = 2)) ∨ (E = "java/lang/IllegalStateException" ∧ (ahT kn bu fr lr nl nr = 3))) (fun (u : Unit) => ([(aR, .inr (11, [.ref aG, .ref aP, .ref aH, .ref aY, .ref aT, .ref aS, .ref aF, .ref aX, .int (iI pr), .int (iI tk), .int (iI tol), .int (iI hou)])), (aG, .inr (4, [.ref aGn, .ref aGw, .ref aGs, .int (iI kn)])), (aH, .inr (5, [.ref aHf, .ref aHl, .ref aHm, .ref aHr, .ref aHp, .int (iI bu)])), (aHf, .inl (gI g, 8, .inl (ar fi))), (aHl, .inl (gI g, 8, .inl (ar la))), (aHm, .inl (gI g, 8, .inl (ar li))), (aHr, .inl (gI g, 8, .inl (ar ra)))] : va_W))))) (by decide) rfl (Nat.le_of_ble_eq_true rfl) ?_
  intro p e s m args below meth c A ls hx hb hr hml hown hts hlocks hout hC hP hD hS hA hl
  have hK := hC.1
  have hown : s.vm.findClass RX8 = some m.cls := hown
  have hin2 : ∀ w ∈ u_ws RX2 TX2 6, w ∈ wsX8_addHouse := by decide +kernel
  have hin8 : ∀ w ∈ u_ws RX8 TX8 12, w ∈ wsX8_addHouse := by decide +kernel
  have hl : lv_has ls 5 [(0, .ref aR), (1, .int (iI fr)), (2, .int (iI lr)), (3, .int (iI nl)), (4, .int (iI nr))] := hl
  obtain ⟨H, hH⟩ : ∃ z, z = s.heap := ⟨_, rfl⟩
  obtain ⟨locs, hlo⟩ : ∃ z : List Loc, z = [] := ⟨_, rfl⟩
  obtain ⟨Q9, hQ9⟩ : ∃ z, z = vx_MQ below (va_Qi (fun r u => r = iI ((fun (u : Unit) => bu) u) ∧ (fun (u : Unit) => (ahT kn bu fr lr nl nr = 0) ∧ (True)) u) (fun u t => xE g A ((fun (u : Unit) => [(aR, .inr (11, [.ref aG, .ref aP, .ref aH, .ref aY, .ref aT, .ref aS, .ref aF, .ref aX, .int (iI pr), .int (iI tk), .int (iI tol), .int (iI hou)])), (aG, .inr (4, [.ref aGn, .ref aGw, .ref aGs, .int (iI kn)])), (aH, .inr (5, [.ref aHf, .ref aHl, .ref aHm, .ref aHr, .ref aHp, .int (iI (bu + 1))])), (aHf, .inl (gI g, 8, .inl (ar (up fi bu fr)))), (aHl, .inl (gI g, 8, .inl (ar (up la bu lr)))), (aHm, .inl (gI g, 8, .inl (ar (up li bu nl)))), (aHr, .inl (gI g, 8, .inl (ar (up ra bu nr))))]) u) t) A) (xX g A (fun (u : Unit) => True) (fun E : String => (E = "java/lang/IndexOutOfBoundsException" ∧ (ahT kn bu fr lr nl nr = 1)) ∨ (E = "java/lang/IllegalArgumentException" ∧ (ahT kn bu fr lr nl nr = 2)) ∨ (E = "java/lang/IllegalStateException" ∧ (ahT kn bu fr lr nl nr = 3))) (fun (u : Unit) => ([(aR, .inr (11, [.ref aG, .ref aP, .ref aH, .ref aY, .ref aT, .ref aS, .ref aF, .ref aX, .int (iI pr), .int (iI tk), .int (iI tol), .int (iI hou)])), (aG, .inr (4, [.ref aGn, .ref aGw, .ref aGs, .int (iI kn)])), (aH, .inr (5, [.ref aHf, .ref aHl, .ref aHm, .ref aHr, .ref aHp, .int (iI bu)])), (aHf, .inl (gI g, 8, .inl (ar fi))), (aHl, .inl (gI g, 8, .inl (ar la))), (aHm, .inl (gI g, 8, .inl (ar li))), (aHr, .inl (gI g, 8, .inl (ar ra)))] : va_W))) args s 5 30 A := ⟨_, rfl⟩
  have hP : va_P (gD g) vwCl [(aR, .inr (11, [.ref aG, .ref aP, .ref aH, .ref aY, .ref aT, .ref aS, .ref aF, .ref aX, .int (iI pr), .int (iI tk), .int (iI tol), .int (iI hou)])), (aG, .inr (4, [.ref aGn, .ref aGw, .ref aGs, .int (iI kn)])), (aH, .inr (5, [.ref aHf, .ref aHl, .ref aHm, .ref aHr, .ref aHp, .int (iI bu)])), (aHf, .inl (gI g, 8, .inl (ar fi))), (aHl, .inl (gI g, 8, .inl (ar la))), (aHm, .inl (gI g, 8, .inl (ar li))), (aHr, .inl (gI g, 8, .inl (ar ra)))] H := by rw [hH]; exact hP
  have hS : va_S A s.heap H locs := by rw [hH, hlo]; exact hS
  have goal_ : W p l e { frames := 7, cells := 5, slots := 30, locals := 114 } s m args below meth c H locs 0 0 Q9 (F0 m 0 ls []) := by
    clear hH hlo
    refine lv_aload_n hx hb dX8_addHouse_0 rfl (lv_at hl 0 rfl) ?_
    refine lv_iload_n hx hb dX8_addHouse_1 rfl (lv_at hl 1 rfl) ?_
    refine x_callvX (S := Unit) (SX := Unit) (wc := [(aR, .inr (11, [.ref aG, .ref aP, .ref aH, .ref aY, .ref aT, .ref aS, .ref aF, .ref aX, .int (iI pr), .int (iI tk), .int (iI tol), .int (iI hou)])), (aG, .inr (4, [.ref aGn, .ref aGw, .ref aGs, .int (iI kn)]))]) (wr := [(aH, .inr (5, [.ref aHf, .ref aHl, .ref aHm, .ref aHr, .ref aHp, .int (iI bu)])), (aHf, .inl (gI g, 8, .inl (ar fi))), (aHl, .inl (gI g, 8, .inl (ar la))), (aHm, .inl (gI g, 8, .inl (ar li))), (aHr, .inl (gI g, 8, .inl (ar ra)))]) hC hP hD hS hA [0, 1] [2, 3, 4, 5, 6] [5, 6, 0, 1, 2, 3, 4] rfl rfl (fun hpre => vx_runV (As := [.int (iI fr)]) (rest := []) ⟨hx, hb, hml, hown, hts⟩ (c_X8_checkGround l hflags g H.size aR aG aP aH aY aT aS aF aX aGn aGw aGs pr tk tol hou kn fr (by first | (first | assumption | omega | exact bnd_up (by assumption) (by omega) (by omega)) | fail "q8") (by first | (first | assumption | omega | exact bnd_up (by assumption) (by omega) (by omega)) | fail "q8")) (cwV 1 hts gX8_addHouse_X8_checkGround rfl rfl rfl (by decide +kernel) ⟨Nat.le_of_ble_eq_true rfl, Nat.le_of_ble_eq_true rfl⟩) ⟨xB_blind, va_recv hK hP (ci := 11) (q0 := 0) rfl rfl, hpre _⟩ rfl rfl hl.1 rfl (lv_room (Nat.le_of_ble_eq_true rfl)) dX8_addHouse_2 ⟨Nat.le_of_ble_eq_true rfl, Nat.le_of_ble_eq_true rfl⟩) (fun (u : Unit) => [(aR, .inr (11, [.ref aG, .ref aP, .ref aH, .ref aY, .ref aT, .ref aS, .ref aF, .ref aX, .int (iI pr), .int (iI tk), .int (iI tol), .int (iI hou)])), (aG, .inr (4, [.ref aGn, .ref aGw, .ref aGs, .int (iI kn)])), (aH, .inr (5, [.ref aHf, .ref aHl, .ref aHm, .ref aHr, .ref aHp, .int (iI bu)])), (aHf, .inl (gI g, 8, .inl (ar fi))), (aHl, .inl (gI g, 8, .inl (ar la))), (aHm, .inl (gI g, 8, .inl (ar li))), (aHr, .inl (gI g, 8, .inl (ar ra)))]) (fun (u : Unit) => ([(aR, .inr (11, [.ref aG, .ref aP, .ref aH, .ref aY, .ref aT, .ref aS, .ref aF, .ref aX, .int (iI pr), .int (iI tk), .int (iI tol), .int (iI hou)])), (aG, .inr (4, [.ref aGn, .ref aGw, .ref aGs, .int (iI kn)])), (aH, .inr (5, [.ref aHf, .ref aHl, .ref aHm, .ref aHr, .ref aHp, .int (iI bu)])), (aHf, .inl (gI g, 8, .inl (ar fi))), (aHl, .inl (gI g, 8, .inl (ar la))), (aHm, .inl (gI g, 8, .inl (ar li))), (aHr, .inl (gI g, 8, .inl (ar ra)))] : va_W)) rfl rfl (by decide) (fun _ => rfl) (fun _ => rfl) rfl (fun E ce q9 u H locs hXP hPX hP hD hS hcell hv9 hcl => ?_) (fun u H locs hv_1 hP hD hS => ?_)
    · skip
      have hP : va_P (gD g) vwCl [(aR, .inr (11, [.ref aG, .ref aP, .ref aH, .ref aY, .ref aT, .ref aS, .ref aF, .ref aX, .int (iI pr), .int (iI tk), .int (iI tol), .int (iI hou)])), (aG, .inr (4, [.ref aGn, .ref aGw, .ref aGs, .int (iI kn)])), (aH, .inr (5, [.ref aHf, .ref aHl, .ref aHm, .ref aHr, .ref aHp, .int (iI bu)])), (aHf, .inl (gI g, 8, .inl (ar fi))), (aHl, .inl (gI g, 8, .inl (ar la))), (aHm, .inl (gI g, 8, .inl (ar li))), (aHr, .inl (gI g, 8, .inl (ar ra)))] H := hP
      have hD : va_D A [(aR, .inr (11, [.ref aG, .ref aP, .ref aH, .ref aY, .ref aT, .ref aS, .ref aF, .ref aX, .int (iI pr), .int (iI tk), .int (iI tol), .int (iI hou)])), (aG, .inr (4, [.ref aGn, .ref aGw, .ref aGs, .int (iI kn)])), (aH, .inr (5, [.ref aHf, .ref aHl, .ref aHm, .ref aHr, .ref aHp, .int (iI bu)])), (aHf, .inl (gI g, 8, .inl (ar fi))), (aHl, .inl (gI g, 8, .inl (ar la))), (aHm, .inl (gI g, 8, .inl (ar li))), (aHr, .inl (gI g, 8, .inl (ar ra)))] := hD
      obtain ⟨hE, hp⟩ := hPX
      have hp : ¬ (0 ≤ fr ∧ fr < kn) := hp
      subst hE
      rw [hQ9]
      exact x_out hout hlocks hP hD hS hcell hv9 hcl () trivial (Or.inl ⟨rfl, (by
          first
          | (
             unfold ahT
             omega)
          | fail "q9")⟩) rfl (Nat.le_of_ble_eq_true rfl) (Nat.le_of_ble_eq_true rfl)
    · skip
      have hP : va_P (gD g) vwCl [(aR, .inr (11, [.ref aG, .ref aP, .ref aH, .ref aY, .ref aT, .ref aS, .ref aF, .ref aX, .int (iI pr), .int (iI tk), .int (iI tol), .int (iI hou)])), (aG, .inr (4, [.ref aGn, .ref aGw, .ref aGs, .int (iI kn)])), (aH, .inr (5, [.ref aHf, .ref aHl, .ref aHm, .ref aHr, .ref aHp, .int (iI bu)])), (aHf, .inl (gI g, 8, .inl (ar fi))), (aHl, .inl (gI g, 8, .inl (ar la))), (aHm, .inl (gI g, 8, .inl (ar li))), (aHr, .inl (gI g, 8, .inl (ar ra)))] H := hP
      have hD : va_D A [(aR, .inr (11, [.ref aG, .ref aP, .ref aH, .ref aY, .ref aT, .ref aS, .ref aF, .ref aX, .int (iI pr), .int (iI tk), .int (iI tol), .int (iI hou)])), (aG, .inr (4, [.ref aGn, .ref aGw, .ref aGs, .int (iI kn)])), (aH, .inr (5, [.ref aHf, .ref aHl, .ref aHm, .ref aHr, .ref aHp, .int (iI bu)])), (aHf, .inl (gI g, 8, .inl (ar fi))), (aHl, .inl (gI g, 8, .inl (ar la))), (aHm, .inl (gI g, 8, .inl (ar li))), (aHr, .inl (gI g, 8, .inl (ar ra)))] := hD
      obtain ⟨tv_1, pv_1⟩ := hv_1
      have tv_1 : 0 ≤ fr ∧ fr < kn := tv_1
      refine lv_aload_n hx hb dX8_addHouse_5 rfl (lv_at hl 0 rfl) ?_
      refine lv_iload_n hx hb dX8_addHouse_6 rfl (lv_at hl 2 rfl) ?_
      refine x_callvX (S := Unit) (SX := Unit) (wc := [(aR, .inr (11, [.ref aG, .ref aP, .ref aH, .ref aY, .ref aT, .ref aS, .ref aF, .ref aX, .int (iI pr), .int (iI tk), .int (iI tol), .int (iI hou)])), (aG, .inr (4, [.ref aGn, .ref aGw, .ref aGs, .int (iI kn)]))]) (wr := [(aH, .inr (5, [.ref aHf, .ref aHl, .ref aHm, .ref aHr, .ref aHp, .int (iI bu)])), (aHf, .inl (gI g, 8, .inl (ar fi))), (aHl, .inl (gI g, 8, .inl (ar la))), (aHm, .inl (gI g, 8, .inl (ar li))), (aHr, .inl (gI g, 8, .inl (ar ra)))]) hC hP hD hS hA [0, 1] [2, 3, 4, 5, 6] [5, 6, 0, 1, 2, 3, 4] rfl rfl (fun hpre => vx_runV (As := [.int (iI lr)]) (rest := []) ⟨hx, hb, hml, hown, hts⟩ (c_X8_checkGround l hflags g H.size aR aG aP aH aY aT aS aF aX aGn aGw aGs pr tk tol hou kn lr (by first | (first | assumption | omega | exact bnd_up (by assumption) (by omega) (by omega)) | fail "q8") (by first | (first | assumption | omega | exact bnd_up (by assumption) (by omega) (by omega)) | fail "q8")) (cwV 1 hts gX8_addHouse_X8_checkGround rfl rfl rfl (by decide +kernel) ⟨Nat.le_of_ble_eq_true rfl, Nat.le_of_ble_eq_true rfl⟩) ⟨xB_blind, va_recv hK hP (ci := 11) (q0 := 0) rfl rfl, hpre _⟩ rfl rfl hl.1 rfl (lv_room (Nat.le_of_ble_eq_true rfl)) dX8_addHouse_7 ⟨Nat.le_of_ble_eq_true rfl, Nat.le_of_ble_eq_true rfl⟩) (fun (u : Unit) => [(aR, .inr (11, [.ref aG, .ref aP, .ref aH, .ref aY, .ref aT, .ref aS, .ref aF, .ref aX, .int (iI pr), .int (iI tk), .int (iI tol), .int (iI hou)])), (aG, .inr (4, [.ref aGn, .ref aGw, .ref aGs, .int (iI kn)])), (aH, .inr (5, [.ref aHf, .ref aHl, .ref aHm, .ref aHr, .ref aHp, .int (iI bu)])), (aHf, .inl (gI g, 8, .inl (ar fi))), (aHl, .inl (gI g, 8, .inl (ar la))), (aHm, .inl (gI g, 8, .inl (ar li))), (aHr, .inl (gI g, 8, .inl (ar ra)))]) (fun (u : Unit) => ([(aR, .inr (11, [.ref aG, .ref aP, .ref aH, .ref aY, .ref aT, .ref aS, .ref aF, .ref aX, .int (iI pr), .int (iI tk), .int (iI tol), .int (iI hou)])), (aG, .inr (4, [.ref aGn, .ref aGw, .ref aGs, .int (iI kn)])), (aH, .inr (5, [.ref aHf, .ref aHl, .ref aHm, .ref aHr, .ref aHp, .int (iI bu)])), (aHf, .inl (gI g, 8, .inl (ar fi))), (aHl, .inl (gI g, 8, .inl (ar la))), (aHm, .inl (gI g, 8, .inl (ar li))), (aHr, .inl (gI g, 8, .inl (ar ra)))] : va_W)) rfl rfl (by decide) (fun _ => rfl) (fun _ => rfl) rfl (fun E ce q9 u H locs hXP hPX hP hD hS hcell hv9 hcl => ?_) (fun u H locs hv_2 hP hD hS => ?_)
      · skip
        have hP : va_P (gD g) vwCl [(aR, .inr (11, [.ref aG, .ref aP, .ref aH, .ref aY, .ref aT, .ref aS, .ref aF, .ref aX, .int (iI pr), .int (iI tk), .int (iI tol), .int (iI hou)])), (aG, .inr (4, [.ref aGn, .ref aGw, .ref aGs, .int (iI kn)])), (aH, .inr (5, [.ref aHf, .ref aHl, .ref aHm, .ref aHr, .ref aHp, .int (iI bu)])), (aHf, .inl (gI g, 8, .inl (ar fi))), (aHl, .inl (gI g, 8, .inl (ar la))), (aHm, .inl (gI g, 8, .inl (ar li))), (aHr, .inl (gI g, 8, .inl (ar ra)))] H := hP
        have hD : va_D A [(aR, .inr (11, [.ref aG, .ref aP, .ref aH, .ref aY, .ref aT, .ref aS, .ref aF, .ref aX, .int (iI pr), .int (iI tk), .int (iI tol), .int (iI hou)])), (aG, .inr (4, [.ref aGn, .ref aGw, .ref aGs, .int (iI kn)])), (aH, .inr (5, [.ref aHf, .ref aHl, .ref aHm, .ref aHr, .ref aHp, .int (iI bu)])), (aHf, .inl (gI g, 8, .inl (ar fi))), (aHl, .inl (gI g, 8, .inl (ar la))), (aHm, .inl (gI g, 8, .inl (ar li))), (aHr, .inl (gI g, 8, .inl (ar ra)))] := hD
        obtain ⟨hE, hp⟩ := hPX
        have hp : ¬ (0 ≤ lr ∧ lr < kn) := hp
        subst hE
        rw [hQ9]
        exact x_out hout hlocks hP hD hS hcell hv9 hcl () trivial (Or.inl ⟨rfl, (by
            first
            | (
               unfold ahT
               omega)
            | fail "q9")⟩) rfl (Nat.le_of_ble_eq_true rfl) (Nat.le_of_ble_eq_true rfl)
      · skip
        have hP : va_P (gD g) vwCl [(aR, .inr (11, [.ref aG, .ref aP, .ref aH, .ref aY, .ref aT, .ref aS, .ref aF, .ref aX, .int (iI pr), .int (iI tk), .int (iI tol), .int (iI hou)])), (aG, .inr (4, [.ref aGn, .ref aGw, .ref aGs, .int (iI kn)])), (aH, .inr (5, [.ref aHf, .ref aHl, .ref aHm, .ref aHr, .ref aHp, .int (iI bu)])), (aHf, .inl (gI g, 8, .inl (ar fi))), (aHl, .inl (gI g, 8, .inl (ar la))), (aHm, .inl (gI g, 8, .inl (ar li))), (aHr, .inl (gI g, 8, .inl (ar ra)))] H := hP
        have hD : va_D A [(aR, .inr (11, [.ref aG, .ref aP, .ref aH, .ref aY, .ref aT, .ref aS, .ref aF, .ref aX, .int (iI pr), .int (iI tk), .int (iI tol), .int (iI hou)])), (aG, .inr (4, [.ref aGn, .ref aGw, .ref aGs, .int (iI kn)])), (aH, .inr (5, [.ref aHf, .ref aHl, .ref aHm, .ref aHr, .ref aHp, .int (iI bu)])), (aHf, .inl (gI g, 8, .inl (ar fi))), (aHl, .inl (gI g, 8, .inl (ar la))), (aHm, .inl (gI g, 8, .inl (ar li))), (aHr, .inl (gI g, 8, .inl (ar ra)))] := hD
        obtain ⟨tv_2, pv_2⟩ := hv_2
        have tv_2 : 0 ≤ lr ∧ lr < kn := tv_2
        refine lv_iload_n hx hb dX8_addHouse_10 rfl (lv_at hl 2 rfl) ?_
        refine lv_iload_n hx hb dX8_addHouse_11 rfl (lv_at hl 1 rfl) ?_
        refine x_cmp_ge (tgt := 25) hx hb (by omega) (by omega) dX8_addHouse_12 (by decide) (fun c_3 => ?_) (fun c_3 => ?_)
        · skip
          refine lv_iload_n hx hb dX8_addHouse_25 rfl (lv_at hl 3 rfl) ?_
          refine x_iconst hx hb dX8_addHouse_26 ?_
          refine x_bipush hx hb dX8_addHouse_27 (by decide) ?_
          refine x_callvX (S := Unit) (SX := Unit) (wc := []) (wr := [(aR, .inr (11, [.ref aG, .ref aP, .ref aH, .ref aY, .ref aT, .ref aS, .ref aF, .ref aX, .int (iI pr), .int (iI tk), .int (iI tol), .int (iI hou)])), (aG, .inr (4, [.ref aGn, .ref aGw, .ref aGs, .int (iI kn)])), (aH, .inr (5, [.ref aHf, .ref aHl, .ref aHm, .ref aHr, .ref aHp, .int (iI bu)])), (aHf, .inl (gI g, 8, .inl (ar fi))), (aHl, .inl (gI g, 8, .inl (ar la))), (aHm, .inl (gI g, 8, .inl (ar li))), (aHr, .inl (gI g, 8, .inl (ar ra)))]) hC hP hD hS hA [] [0, 1, 2, 3, 4, 5, 6] [0, 1, 2, 3, 4, 5, 6] rfl rfl (fun hpre => vx_runS (As := [.int (iI nl), .int (iI 0), .int (iI 100)]) (rest := []) ⟨hx, hb, hml, hown, hts⟩ (c_X8_checkRange l hflags g H.size nl 0 100 (by first | (first | assumption | omega | exact bnd_up (by assumption) (by omega) (by omega)) | fail "q8") (by first | (first | assumption | omega | exact bnd_up (by assumption) (by omega) (by omega)) | fail "q8") (by first | (first | assumption | omega | exact bnd_up (by assumption) (by omega) (by omega)) | fail "q8")) (va_cwS 3 hts gX8_addHouse_X8_checkRange rfl rfl rfl (by decide +kernel) ⟨Nat.le_of_ble_eq_true rfl, Nat.le_of_ble_eq_true rfl⟩) ⟨xB_blind, hpre _⟩ rfl rfl hl.1 rfl (lv_room (Nat.le_of_ble_eq_true rfl)) dX8_addHouse_29 ⟨Nat.le_of_ble_eq_true rfl, Nat.le_of_ble_eq_true rfl⟩) (fun (u : Unit) => [(aR, .inr (11, [.ref aG, .ref aP, .ref aH, .ref aY, .ref aT, .ref aS, .ref aF, .ref aX, .int (iI pr), .int (iI tk), .int (iI tol), .int (iI hou)])), (aG, .inr (4, [.ref aGn, .ref aGw, .ref aGs, .int (iI kn)])), (aH, .inr (5, [.ref aHf, .ref aHl, .ref aHm, .ref aHr, .ref aHp, .int (iI bu)])), (aHf, .inl (gI g, 8, .inl (ar fi))), (aHl, .inl (gI g, 8, .inl (ar la))), (aHm, .inl (gI g, 8, .inl (ar li))), (aHr, .inl (gI g, 8, .inl (ar ra)))]) (fun (u : Unit) => ([(aR, .inr (11, [.ref aG, .ref aP, .ref aH, .ref aY, .ref aT, .ref aS, .ref aF, .ref aX, .int (iI pr), .int (iI tk), .int (iI tol), .int (iI hou)])), (aG, .inr (4, [.ref aGn, .ref aGw, .ref aGs, .int (iI kn)])), (aH, .inr (5, [.ref aHf, .ref aHl, .ref aHm, .ref aHr, .ref aHp, .int (iI bu)])), (aHf, .inl (gI g, 8, .inl (ar fi))), (aHl, .inl (gI g, 8, .inl (ar la))), (aHm, .inl (gI g, 8, .inl (ar li))), (aHr, .inl (gI g, 8, .inl (ar ra)))] : va_W)) rfl rfl (by decide) (fun _ => rfl) (fun _ => rfl) rfl (fun E ce q9 u H locs hXP hPX hP hD hS hcell hv9 hcl => ?_) (fun u H locs hv_4 hP hD hS => ?_)
          · skip
            have hP : va_P (gD g) vwCl [(aR, .inr (11, [.ref aG, .ref aP, .ref aH, .ref aY, .ref aT, .ref aS, .ref aF, .ref aX, .int (iI pr), .int (iI tk), .int (iI tol), .int (iI hou)])), (aG, .inr (4, [.ref aGn, .ref aGw, .ref aGs, .int (iI kn)])), (aH, .inr (5, [.ref aHf, .ref aHl, .ref aHm, .ref aHr, .ref aHp, .int (iI bu)])), (aHf, .inl (gI g, 8, .inl (ar fi))), (aHl, .inl (gI g, 8, .inl (ar la))), (aHm, .inl (gI g, 8, .inl (ar li))), (aHr, .inl (gI g, 8, .inl (ar ra)))] H := hP
            have hD : va_D A [(aR, .inr (11, [.ref aG, .ref aP, .ref aH, .ref aY, .ref aT, .ref aS, .ref aF, .ref aX, .int (iI pr), .int (iI tk), .int (iI tol), .int (iI hou)])), (aG, .inr (4, [.ref aGn, .ref aGw, .ref aGs, .int (iI kn)])), (aH, .inr (5, [.ref aHf, .ref aHl, .ref aHm, .ref aHr, .ref aHp, .int (iI bu)])), (aHf, .inl (gI g, 8, .inl (ar fi))), (aHl, .inl (gI g, 8, .inl (ar la))), (aHm, .inl (gI g, 8, .inl (ar li))), (aHr, .inl (gI g, 8, .inl (ar ra)))] := hD
            obtain ⟨hE, hp⟩ := hPX
            have hp : ¬ (0 ≤ nl ∧ nl ≤ 100) := hp
            subst hE
            rw [hQ9]
            exact x_out hout hlocks hP hD hS hcell hv9 hcl () trivial (Or.inr (Or.inl ⟨rfl, (by
                first
                | (
                   unfold ahT
                   omega)
                | fail "q9")⟩)) rfl (Nat.le_of_ble_eq_true rfl) (Nat.le_of_ble_eq_true rfl)
          · skip
            have hP : va_P (gD g) vwCl [(aR, .inr (11, [.ref aG, .ref aP, .ref aH, .ref aY, .ref aT, .ref aS, .ref aF, .ref aX, .int (iI pr), .int (iI tk), .int (iI tol), .int (iI hou)])), (aG, .inr (4, [.ref aGn, .ref aGw, .ref aGs, .int (iI kn)])), (aH, .inr (5, [.ref aHf, .ref aHl, .ref aHm, .ref aHr, .ref aHp, .int (iI bu)])), (aHf, .inl (gI g, 8, .inl (ar fi))), (aHl, .inl (gI g, 8, .inl (ar la))), (aHm, .inl (gI g, 8, .inl (ar li))), (aHr, .inl (gI g, 8, .inl (ar ra)))] H := hP
            have hD : va_D A [(aR, .inr (11, [.ref aG, .ref aP, .ref aH, .ref aY, .ref aT, .ref aS, .ref aF, .ref aX, .int (iI pr), .int (iI tk), .int (iI tol), .int (iI hou)])), (aG, .inr (4, [.ref aGn, .ref aGw, .ref aGs, .int (iI kn)])), (aH, .inr (5, [.ref aHf, .ref aHl, .ref aHm, .ref aHr, .ref aHp, .int (iI bu)])), (aHf, .inl (gI g, 8, .inl (ar fi))), (aHl, .inl (gI g, 8, .inl (ar la))), (aHm, .inl (gI g, 8, .inl (ar li))), (aHr, .inl (gI g, 8, .inl (ar ra)))] := hD
            obtain ⟨tv_4, pv_4⟩ := hv_4
            have tv_4 : 0 ≤ nl ∧ nl ≤ 100 := tv_4
            refine lv_iload hx hb dX8_addHouse_32 (lv_at hl 4 rfl) ?_
            refine x_iconst hx hb dX8_addHouse_34 ?_
            refine x_bipush hx hb dX8_addHouse_35 (by decide) ?_
            refine x_callvX (S := Unit) (SX := Unit) (wc := []) (wr := [(aR, .inr (11, [.ref aG, .ref aP, .ref aH, .ref aY, .ref aT, .ref aS, .ref aF, .ref aX, .int (iI pr), .int (iI tk), .int (iI tol), .int (iI hou)])), (aG, .inr (4, [.ref aGn, .ref aGw, .ref aGs, .int (iI kn)])), (aH, .inr (5, [.ref aHf, .ref aHl, .ref aHm, .ref aHr, .ref aHp, .int (iI bu)])), (aHf, .inl (gI g, 8, .inl (ar fi))), (aHl, .inl (gI g, 8, .inl (ar la))), (aHm, .inl (gI g, 8, .inl (ar li))), (aHr, .inl (gI g, 8, .inl (ar ra)))]) hC hP hD hS hA [] [0, 1, 2, 3, 4, 5, 6] [0, 1, 2, 3, 4, 5, 6] rfl rfl (fun hpre => vx_runS (As := [.int (iI nr), .int (iI 1), .int (iI 50)]) (rest := []) ⟨hx, hb, hml, hown, hts⟩ (c_X8_checkRange l hflags g H.size nr 1 50 (by first | (first | assumption | omega | exact bnd_up (by assumption) (by omega) (by omega)) | fail "q8") (by first | (first | assumption | omega | exact bnd_up (by assumption) (by omega) (by omega)) | fail "q8") (by first | (first | assumption | omega | exact bnd_up (by assumption) (by omega) (by omega)) | fail "q8")) (va_cwS 3 hts gX8_addHouse_X8_checkRange rfl rfl rfl (by decide +kernel) ⟨Nat.le_of_ble_eq_true rfl, Nat.le_of_ble_eq_true rfl⟩) ⟨xB_blind, hpre _⟩ rfl rfl hl.1 rfl (lv_room (Nat.le_of_ble_eq_true rfl)) dX8_addHouse_37 ⟨Nat.le_of_ble_eq_true rfl, Nat.le_of_ble_eq_true rfl⟩) (fun (u : Unit) => [(aR, .inr (11, [.ref aG, .ref aP, .ref aH, .ref aY, .ref aT, .ref aS, .ref aF, .ref aX, .int (iI pr), .int (iI tk), .int (iI tol), .int (iI hou)])), (aG, .inr (4, [.ref aGn, .ref aGw, .ref aGs, .int (iI kn)])), (aH, .inr (5, [.ref aHf, .ref aHl, .ref aHm, .ref aHr, .ref aHp, .int (iI bu)])), (aHf, .inl (gI g, 8, .inl (ar fi))), (aHl, .inl (gI g, 8, .inl (ar la))), (aHm, .inl (gI g, 8, .inl (ar li))), (aHr, .inl (gI g, 8, .inl (ar ra)))]) (fun (u : Unit) => ([(aR, .inr (11, [.ref aG, .ref aP, .ref aH, .ref aY, .ref aT, .ref aS, .ref aF, .ref aX, .int (iI pr), .int (iI tk), .int (iI tol), .int (iI hou)])), (aG, .inr (4, [.ref aGn, .ref aGw, .ref aGs, .int (iI kn)])), (aH, .inr (5, [.ref aHf, .ref aHl, .ref aHm, .ref aHr, .ref aHp, .int (iI bu)])), (aHf, .inl (gI g, 8, .inl (ar fi))), (aHl, .inl (gI g, 8, .inl (ar la))), (aHm, .inl (gI g, 8, .inl (ar li))), (aHr, .inl (gI g, 8, .inl (ar ra)))] : va_W)) rfl rfl (by decide) (fun _ => rfl) (fun _ => rfl) rfl (fun E ce q9 u H locs hXP hPX hP hD hS hcell hv9 hcl => ?_) (fun u H locs hv_5 hP hD hS => ?_)
            · skip
              have hP : va_P (gD g) vwCl [(aR, .inr (11, [.ref aG, .ref aP, .ref aH, .ref aY, .ref aT, .ref aS, .ref aF, .ref aX, .int (iI pr), .int (iI tk), .int (iI tol), .int (iI hou)])), (aG, .inr (4, [.ref aGn, .ref aGw, .ref aGs, .int (iI kn)])), (aH, .inr (5, [.ref aHf, .ref aHl, .ref aHm, .ref aHr, .ref aHp, .int (iI bu)])), (aHf, .inl (gI g, 8, .inl (ar fi))), (aHl, .inl (gI g, 8, .inl (ar la))), (aHm, .inl (gI g, 8, .inl (ar li))), (aHr, .inl (gI g, 8, .inl (ar ra)))] H := hP
              have hD : va_D A [(aR, .inr (11, [.ref aG, .ref aP, .ref aH, .ref aY, .ref aT, .ref aS, .ref aF, .ref aX, .int (iI pr), .int (iI tk), .int (iI tol), .int (iI hou)])), (aG, .inr (4, [.ref aGn, .ref aGw, .ref aGs, .int (iI kn)])), (aH, .inr (5, [.ref aHf, .ref aHl, .ref aHm, .ref aHr, .ref aHp, .int (iI bu)])), (aHf, .inl (gI g, 8, .inl (ar fi))), (aHl, .inl (gI g, 8, .inl (ar la))), (aHm, .inl (gI g, 8, .inl (ar li))), (aHr, .inl (gI g, 8, .inl (ar ra)))] := hD
              obtain ⟨hE, hp⟩ := hPX
              have hp : ¬ (1 ≤ nr ∧ nr ≤ 50) := hp
              subst hE
              rw [hQ9]
              exact x_out hout hlocks hP hD hS hcell hv9 hcl () trivial (Or.inr (Or.inl ⟨rfl, (by
                  first
                  | (
                     unfold ahT
                     omega)
                  | fail "q9")⟩)) rfl (Nat.le_of_ble_eq_true rfl) (Nat.le_of_ble_eq_true rfl)
            · skip
              have hP : va_P (gD g) vwCl [(aR, .inr (11, [.ref aG, .ref aP, .ref aH, .ref aY, .ref aT, .ref aS, .ref aF, .ref aX, .int (iI pr), .int (iI tk), .int (iI tol), .int (iI hou)])), (aG, .inr (4, [.ref aGn, .ref aGw, .ref aGs, .int (iI kn)])), (aH, .inr (5, [.ref aHf, .ref aHl, .ref aHm, .ref aHr, .ref aHp, .int (iI bu)])), (aHf, .inl (gI g, 8, .inl (ar fi))), (aHl, .inl (gI g, 8, .inl (ar la))), (aHm, .inl (gI g, 8, .inl (ar li))), (aHr, .inl (gI g, 8, .inl (ar ra)))] H := hP
              have hD : va_D A [(aR, .inr (11, [.ref aG, .ref aP, .ref aH, .ref aY, .ref aT, .ref aS, .ref aF, .ref aX, .int (iI pr), .int (iI tk), .int (iI tol), .int (iI hou)])), (aG, .inr (4, [.ref aGn, .ref aGw, .ref aGs, .int (iI kn)])), (aH, .inr (5, [.ref aHf, .ref aHl, .ref aHm, .ref aHr, .ref aHp, .int (iI bu)])), (aHf, .inl (gI g, 8, .inl (ar fi))), (aHl, .inl (gI g, 8, .inl (ar la))), (aHm, .inl (gI g, 8, .inl (ar li))), (aHr, .inl (gI g, 8, .inl (ar ra)))] := hD
              obtain ⟨tv_5, pv_5⟩ := hv_5
              have tv_5 : 1 ≤ nr ∧ nr ≤ 50 := tv_5
              refine lv_aload_n hx hb dX8_addHouse_40 rfl (lv_at hl 0 rfl) ?_
              refine va_get (D := gD g) (ci := 11) (v := .ref aH) (C := RX8) (T := TX8) (N := 12) hx hb hts hin8 hown hK hP 0 rfl rfl 2 (by decide) (hts (.fieldLink RX8 26 "TunnelRing" "houses" "LTunnelRing$Houses;") (List.mem_of_getElem? (i := 5) rfl)) (fun _ h9 => h9) rfl dX8_addHouse_41 ?_
              refine va_get (D := gD g) (ci := 5) (v := .int (iI bu)) (C := RX2) (T := TX2) (N := 6) hx hb hts hin2 hown hK hP 2 rfl rfl 5 (by decide) (hts (.fieldLink RX8 117 "TunnelRing$Houses" "built" "I") (List.mem_of_getElem? (i := 6) rfl)) (fun _ h9 => h9) rfl dX8_addHouse_44 ?_
              refine x_bipush hx hb dX8_addHouse_47 (by decide) ?_
              refine x_cmp_lt (tgt := 62) hx hb (by omega) (by omega) dX8_addHouse_49 (by decide) (fun c_6 => ?_) (fun c_6 => ?_)
              · skip
                refine lv_aload_n hx hb dX8_addHouse_62 rfl (lv_at hl 0 rfl) ?_
                refine va_get (D := gD g) (ci := 11) (v := .ref aH) (C := RX8) (T := TX8) (N := 12) hx hb hts hin8 hown hK hP 0 rfl rfl 2 (by decide) (hts (.fieldLink RX8 26 "TunnelRing" "houses" "LTunnelRing$Houses;") (List.mem_of_getElem? (i := 5) rfl)) (fun _ h9 => h9) rfl dX8_addHouse_63 ?_
                refine lv_iload_n hx hb dX8_addHouse_66 rfl (lv_at hl 1 rfl) ?_
                refine lv_iload_n hx hb dX8_addHouse_67 rfl (lv_at hl 2 rfl) ?_
                refine lv_iload_n hx hb dX8_addHouse_68 rfl (lv_at hl 3 rfl) ?_
                refine lv_iload hx hb dX8_addHouse_69 (lv_at hl 4 rfl) ?_
                refine x_calli (S := Unit) (wc := [(aH, .inr (5, [.ref aHf, .ref aHl, .ref aHm, .ref aHr, .ref aHp, .int (iI bu)])), (aHf, .inl (gI g, 8, .inl (ar fi))), (aHl, .inl (gI g, 8, .inl (ar la))), (aHm, .inl (gI g, 8, .inl (ar li))), (aHr, .inl (gI g, 8, .inl (ar ra)))]) (wr := [(aR, .inr (11, [.ref aG, .ref aP, .ref aH, .ref aY, .ref aT, .ref aS, .ref aF, .ref aX, .int (iI pr), .int (iI tk), .int (iI tol), .int (iI hou)])), (aG, .inr (4, [.ref aGn, .ref aGw, .ref aGs, .int (iI kn)]))]) hC hP hD hS hA [2, 3, 4, 5, 6] [0, 1] [0, 1, 2, 3, 4, 5, 6] rfl rfl (fun hpre => va_runV (As := [.int (iI fr), .int (iI lr), .int (iI nl), .int (iI nr)]) (rest := []) ⟨hx, hb, hml, hown, hts⟩ (c_X2_build l g H.size aH aHf aHl aHm aHr aHp bu fr lr nl nr fi la li ra (by first | (first | assumption | omega | exact bnd_up (by assumption) (by omega) (by omega)) | fail "q8")) (cwV 4 hts gX8_addHouse_X2_build rfl rfl rfl (by decide +kernel) ⟨Nat.le_of_ble_eq_true rfl, Nat.le_of_ble_eq_true rfl⟩) ⟨xB_blind, va_recv hK hP (ci := 5) (q0 := 2) rfl rfl, hpre _⟩ rfl rfl hl.1 rfl (lv_room (Nat.le_of_ble_eq_true rfl)) dX8_addHouse_71 ⟨Nat.le_of_ble_eq_true rfl, Nat.le_of_ble_eq_true rfl⟩) (fun (u : Unit) => [(aR, .inr (11, [.ref aG, .ref aP, .ref aH, .ref aY, .ref aT, .ref aS, .ref aF, .ref aX, .int (iI pr), .int (iI tk), .int (iI tol), .int (iI hou)])), (aG, .inr (4, [.ref aGn, .ref aGw, .ref aGs, .int (iI kn)])), (aH, .inr (5, [.ref aHf, .ref aHl, .ref aHm, .ref aHr, .ref aHp, .int (iI (bu + 1))])), (aHf, .inl (gI g, 8, .inl (ar (up fi bu fr)))), (aHl, .inl (gI g, 8, .inl (ar (up la bu lr)))), (aHm, .inl (gI g, 8, .inl (ar (up li bu nl)))), (aHr, .inl (gI g, 8, .inl (ar (up ra bu nr))))]) rfl rfl (by decide) (fun _ => rfl) rfl (fun u v_7 H locs hv_7 pv_7 hP hD hS => ?_)
                have hP : va_P (gD g) vwCl [(aR, .inr (11, [.ref aG, .ref aP, .ref aH, .ref aY, .ref aT, .ref aS, .ref aF, .ref aX, .int (iI pr), .int (iI tk), .int (iI tol), .int (iI hou)])), (aG, .inr (4, [.ref aGn, .ref aGw, .ref aGs, .int (iI kn)])), (aH, .inr (5, [.ref aHf, .ref aHl, .ref aHm, .ref aHr, .ref aHp, .int (iI (bu + 1))])), (aHf, .inl (gI g, 8, .inl (ar (up fi bu fr)))), (aHl, .inl (gI g, 8, .inl (ar (up la bu lr)))), (aHm, .inl (gI g, 8, .inl (ar (up li bu nl)))), (aHr, .inl (gI g, 8, .inl (ar (up ra bu nr))))] H := hP
                have hD : va_D A [(aR, .inr (11, [.ref aG, .ref aP, .ref aH, .ref aY, .ref aT, .ref aS, .ref aF, .ref aX, .int (iI pr), .int (iI tk), .int (iI tol), .int (iI hou)])), (aG, .inr (4, [.ref aGn, .ref aGw, .ref aGs, .int (iI kn)])), (aH, .inr (5, [.ref aHf, .ref aHl, .ref aHm, .ref aHr, .ref aHp, .int (iI (bu + 1))])), (aHf, .inl (gI g, 8, .inl (ar (up fi bu fr)))), (aHl, .inl (gI g, 8, .inl (ar (up la bu lr)))), (aHm, .inl (gI g, 8, .inl (ar (up li bu nl)))), (aHr, .inl (gI g, 8, .inl (ar (up ra bu nr))))] := hD
                have hv_7 : v_7 = bu := hv_7
                rw [hQ9]
                exact vx_ret (x_iret hx hb hr hlocks hP hD hS (S := Unit) rfl dX8_addHouse_74 () (by
                    first
                    | (
                       first | rfl | omega | (subst_vars; first | rfl | omega))
                    | fail "q9") ⟨(by
                    first
                    | (
                       unfold ahT
                       omega)
                    | fail "q9"), trivial⟩ rfl (Nat.le_of_ble_eq_true rfl) (Nat.le_of_ble_eq_true rfl))
              · skip
                rw [hQ9]
                exact x_throwS hx hb hflags hown (by decide +kernel) (by decide +kernel) (hts (.classLink RX8 85 "java/lang/IllegalStateException") (List.mem_of_getElem? (i := 3) rfl)) (hts (.initialized "java/lang/IllegalStateException") (List.mem_of_getElem? (i := 4) rfl)) (hC.2.2.2.2.2.1 _ (List.mem_of_getElem? (i := 1) rfl)) (vx_hat (B := [.castable "java/lang/IllegalStateException" "java/lang/IllegalStateException", .declares (Bundle.initS "java/lang/RuntimeException"), .declares (Bundle.initS "java/lang/Exception"), .declares (Bundle.initS "java/lang/Throwable")]) (fun w h => hts w (List.mem_cons_of_mem _ (List.mem_append_left _ (List.mem_append_left _ (List.mem_append_right _ h))))) (by decide +kernel) (vx_c (va_Nw.use rfl (hC.2.2.2.2.2.2.2.2.2.2.1 "java/lang/IllegalStateException" (List.mem_of_getElem? (i := 1) rfl))) (vx_c (va_Nw.use rfl (hC.2.2.2.2.2.2.2.2.2.2.2.1 "java/lang/RuntimeException" (List.mem_of_getElem? (i := 0) rfl))) (vx_c (va_Nw.use rfl (hC.2.2.2.2.2.2.2.2.2.2.2.1 "java/lang/Exception" (List.mem_of_getElem? (i := 1) rfl))) (vx_c (va_Nw.use rfl (hC.2.2.2.2.2.2.2.2.2.2.2.1 "java/lang/Throwable" (List.mem_of_getElem? (i := 2) rfl))) vx_n))))) (by decide +kernel) hC hP hD hS (hl.1.trans hml.symm) dX8_addHouse_52 dX8_addHouse_55 dX8_addHouse_56 dX8_addHouse_58 dX8_addHouse_61 hout (Nat.le_of_ble_eq_true rfl) (Nat.le_of_ble_eq_true rfl) (Nat.le_of_ble_eq_true rfl) (Nat.le_of_ble_eq_true rfl) hlocks () trivial (Or.inr (Or.inr ⟨rfl, (by
                    first
                    | (
                       unfold ahT
                       omega)
                    | fail "q9")⟩)) rfl (Nat.le_of_ble_eq_true rfl) (Nat.le_of_ble_eq_true rfl)
        · skip
          rw [hQ9]
          exact x_throwS hx hb hflags hown (by decide +kernel) (by decide +kernel) (hts (.classLink RX8 112 "java/lang/IllegalArgumentException") (List.mem_of_getElem? (i := 1) rfl)) (hts (.initialized "java/lang/IllegalArgumentException") (List.mem_of_getElem? (i := 2) rfl)) (hC.2.2.2.2.2.1 _ (List.mem_of_getElem? (i := 0) rfl)) (vx_hat (B := [.castable "java/lang/IllegalArgumentException" "java/lang/IllegalArgumentException", .declares (Bundle.initS "java/lang/RuntimeException"), .declares (Bundle.initS "java/lang/Exception"), .declares (Bundle.initS "java/lang/Throwable")]) (fun w h => hts w (List.mem_cons_of_mem _ (List.mem_append_left _ (List.mem_append_left _ (List.mem_append_left _ (List.mem_append_right _ h)))))) (by decide +kernel) (vx_c (va_Nw.use rfl (hC.2.2.2.2.2.2.2.2.2.2.1 "java/lang/IllegalArgumentException" (List.mem_of_getElem? (i := 0) rfl))) (vx_c (va_Nw.use rfl (hC.2.2.2.2.2.2.2.2.2.2.2.1 "java/lang/RuntimeException" (List.mem_of_getElem? (i := 0) rfl))) (vx_c (va_Nw.use rfl (hC.2.2.2.2.2.2.2.2.2.2.2.1 "java/lang/Exception" (List.mem_of_getElem? (i := 1) rfl))) (vx_c (va_Nw.use rfl (hC.2.2.2.2.2.2.2.2.2.2.2.1 "java/lang/Throwable" (List.mem_of_getElem? (i := 2) rfl))) vx_n))))) (by decide +kernel) hC hP hD hS (hl.1.trans hml.symm) dX8_addHouse_15 dX8_addHouse_18 dX8_addHouse_19 dX8_addHouse_21 dX8_addHouse_24 hout (Nat.le_of_ble_eq_true rfl) (Nat.le_of_ble_eq_true rfl) (Nat.le_of_ble_eq_true rfl) (Nat.le_of_ble_eq_true rfl) hlocks () trivial (Or.inr (Or.inl ⟨rfl, (by
              first
              | (
                 unfold ahT
                 omega)
              | fail "q9")⟩)) rfl (Nat.le_of_ble_eq_true rfl) (Nat.le_of_ble_eq_true rfl)
  rw [hH, hlo, hQ9] at goal_
  exact goal_

set_option maxHeartbeats 4000000 in
set_option maxRecDepth 100000 in
theorem c_X8_cast (l : Launch) (hflags : l.stackTraces = false) (g : xg) (sz : Nat) (aR aG aP aH aY aT aS aF aX aYh aYt aYc : Nat) (pr tk tol hou sta nt : Int) (ht yt yc : Int → Int) (hb_ht : bnd ht 0 12) (hhou : 0 ≤ hou ∧ hou ≤ 5000) (hr_sta : iR sta) (hr_nt : iR nt) : vx_Met l yX8_cast wsX8_cast { frames := 7, cells := 3, slots := 18, locals := 114 } (va_Pc [.ref aR, .int (iI sta), .int (iI nt)] (xB g [(aR, .inr (11, [.ref aG, .ref aP, .ref aH, .ref aY, .ref aT, .ref aS, .ref aF, .ref aX, .int (iI pr), .int (iI tk), .int (iI tol), .int (iI hou)])), (aY, .inr (10, [.ref aYh, .ref aYt, .ref aYc])), (aYh, .inl (gI g, 3, .inl (ar ht))), (aYt, .inl (gI g, 36, .inl (ar yt))), (aYc, .inl (gI g, 36, .inl (ar yc)))] sz)) (va_Qi (fun r u => r = iI ((fun (u : Unit) => ht sta + 1) u) ∧ (fun (u : Unit) => (caT ht sta nt = 0) ∧ (True)) u) (fun u t => xE g (va_A [(aR, .inr (11, [.ref aG, .ref aP, .ref aH, .ref aY, .ref aT, .ref aS, .ref aF, .ref aX, .int (iI pr), .int (iI tk), .int (iI tol), .int (iI hou)])), (aY, .inr (10, [.ref aYh, .ref aYt, .ref aYc])), (aYh, .inl (gI g, 3, .inl (ar ht))), (aYt, .inl (gI g, 36, .inl (ar yt))), (aYc, .inl (gI g, 36, .inl (ar yc)))] sz) ((fun (u : Unit) => [(aR, .inr (11, [.ref aG, .ref aP, .ref aH, .ref aY, .ref aT, .ref aS, .ref aF, .ref aX, .int (iI pr), .int (iI tk), .int (iI tol), .int (iI hou)])), (aY, .inr (10, [.ref aYh, .ref aYt, .ref aYc])), (aYh, .inl (gI g, 3, .inl (ar (up ht sta (ht sta + 1))))), (aYt, .inl (gI g, 36, .inl (ar (up yt (sta * 12 + ht sta) nt)))), (aYc, .inl (gI g, 36, .inl (ar (up yc (sta * 12 + ht sta) hou))))]) u) t) (va_A [(aR, .inr (11, [.ref aG, .ref aP, .ref aH, .ref aY, .ref aT, .ref aS, .ref aF, .ref aX, .int (iI pr), .int (iI tk), .int (iI tol), .int (iI hou)])), (aY, .inr (10, [.ref aYh, .ref aYt, .ref aYc])), (aYh, .inl (gI g, 3, .inl (ar ht))), (aYt, .inl (gI g, 36, .inl (ar yt))), (aYc, .inl (gI g, 36, .inl (ar yc)))] sz)) (xX g (va_A [(aR, .inr (11, [.ref aG, .ref aP, .ref aH, .ref aY, .ref aT, .ref aS, .ref aF, .ref aX, .int (iI pr), .int (iI tk), .int (iI tol), .int (iI hou)])), (aY, .inr (10, [.ref aYh, .ref aYt, .ref aYc])), (aYh, .inl (gI g, 3, .inl (ar ht))), (aYt, .inl (gI g, 36, .inl (ar yt))), (aYc, .inl (gI g, 36, .inl (ar yc)))] sz) (fun (u : Unit) => True) (fun E : String => (E = "java/lang/IndexOutOfBoundsException" ∧ (caT ht sta nt = 1)) ∨ (E = "java/lang/IllegalArgumentException" ∧ (caT ht sta nt = 2)) ∨ (E = "java/lang/IllegalStateException" ∧ (caT ht sta nt = 3))) (fun (u : Unit) => ([(aR, .inr (11, [.ref aG, .ref aP, .ref aH, .ref aY, .ref aT, .ref aS, .ref aF, .ref aX, .int (iI pr), .int (iI tk), .int (iI tol), .int (iI hou)])), (aY, .inr (10, [.ref aYh, .ref aYt, .ref aYc])), (aYh, .inl (gI g, 3, .inl (ar ht))), (aYt, .inl (gI g, 36, .inl (ar yt))), (aYc, .inl (gI g, 36, .inl (ar yc)))] : va_W))) 3 18 (va_A [(aR, .inr (11, [.ref aG, .ref aP, .ref aH, .ref aY, .ref aT, .ref aS, .ref aF, .ref aX, .int (iI pr), .int (iI tk), .int (iI tol), .int (iI hou)])), (aY, .inr (10, [.ref aYh, .ref aYt, .ref aYc])), (aYh, .inl (gI g, 3, .inl (ar ht))), (aYt, .inl (gI g, 36, .inl (ar yt))), (aYc, .inl (gI g, 36, .inl (ar yc)))] sz) := by
  refine x_enterX (y := yX8_cast) (ws := wsX8_cast) (g := g) (sz := sz) (av := [.ref aR, .int (iI sta), .int (iI nt)]) (WS := [(aR, .inr (11, [.ref aG, .ref aP, .ref aH, .ref aY, .ref aT, .ref aS, .ref aF, .ref aX, .int (iI pr), .int (iI tk), .int (iI tol), .int (iI hou)])), (aY, .inr (10, [.ref aYh, .ref aYt, .ref aYc])), (aYh, .inl (gI g, 3, .inl (ar ht))), (aYt, .inl (gI g, 36, .inl (ar yt))), (aYc, .inl (gI g, 36, .inl (ar yc)))]) (cc := cX8_cast) (maxL := 3) (ret := some .int) (Qc := (fun A => (va_Qi (fun r u => r = iI ((fun (u : Unit) => ht sta + 1) u) ∧ (fun (u : Unit) => (caT ht sta nt = 0) ∧ (True)) u) (fun u t => xE g A ((fun (u : Unit) => [(aR, .inr (11, [.ref aG, .ref aP, .ref aH, .ref aY, .ref aT, .ref aS, .ref aF, .ref aX, .int (iI pr), .int (iI tk), .int (iI tol), .int (iI hou)])), (aY, .inr (10, [.ref aYh, .ref aYt, .ref aYc])), (aYh, .inl (gI g, 3, .inl (ar (up ht sta (ht sta + 1))))), (aYt, .inl (gI g, 36, .inl (ar (up yt (sta * 12 + ht sta) nt)))), (aYc, .inl (gI g, 36, .inl (ar (up yc (sta * 12 + ht sta) hou))))]) u) t) A))) (XC := (fun A => (xX g A (fun (u : Unit) => True) (fun E : String => (E = "java/lang/IndexOutOfBoundsException" ∧ (caT ht sta nt = 1)) ∨ (E = "java/lang/IllegalArgumentException" ∧ (caT ht sta nt = 2)) ∨ (E = "java/lang/IllegalStateException" ∧ (caT ht sta nt = 3))) (fun (u : Unit) => ([(aR, .inr (11, [.ref aG, .ref aP, .ref aH, .ref aY, .ref aT, .ref aS, .ref aF, .ref aX, .int (iI pr), .int (iI tk), .int (iI tol), .int (iI hou)])), (aY, .inr (10, [.ref aYh, .ref aYt, .ref aYc])), (aYh, .inl (gI g, 3, .inl (ar ht))), (aYt, .inl (gI g, 36, .inl (ar yt))), (aYc, .inl (gI g, 36, .inl (ar yc)))] : va_W))))) (by decide) rfl (Nat.le_of_ble_eq_true rfl) ?_
  intro p e s m args below meth c A ls hx hb hr hml hown hts hlocks hout hC hP hD hS hA hl
  have hK := hC.1
  have hown : s.vm.findClass RX8 = some m.cls := hown
  have hin7 : ∀ w ∈ u_ws RX7 TX7 3, w ∈ wsX8_cast := by decide +kernel
  have hin8 : ∀ w ∈ u_ws RX8 TX8 12, w ∈ wsX8_cast := by decide +kernel
  have hl : lv_has ls 3 [(0, .ref aR), (1, .int (iI sta)), (2, .int (iI nt))] := hl
  obtain ⟨H, hH⟩ : ∃ z, z = s.heap := ⟨_, rfl⟩
  obtain ⟨locs, hlo⟩ : ∃ z : List Loc, z = [] := ⟨_, rfl⟩
  obtain ⟨Q9, hQ9⟩ : ∃ z, z = vx_MQ below (va_Qi (fun r u => r = iI ((fun (u : Unit) => ht sta + 1) u) ∧ (fun (u : Unit) => (caT ht sta nt = 0) ∧ (True)) u) (fun u t => xE g A ((fun (u : Unit) => [(aR, .inr (11, [.ref aG, .ref aP, .ref aH, .ref aY, .ref aT, .ref aS, .ref aF, .ref aX, .int (iI pr), .int (iI tk), .int (iI tol), .int (iI hou)])), (aY, .inr (10, [.ref aYh, .ref aYt, .ref aYc])), (aYh, .inl (gI g, 3, .inl (ar (up ht sta (ht sta + 1))))), (aYt, .inl (gI g, 36, .inl (ar (up yt (sta * 12 + ht sta) nt)))), (aYc, .inl (gI g, 36, .inl (ar (up yc (sta * 12 + ht sta) hou))))]) u) t) A) (xX g A (fun (u : Unit) => True) (fun E : String => (E = "java/lang/IndexOutOfBoundsException" ∧ (caT ht sta nt = 1)) ∨ (E = "java/lang/IllegalArgumentException" ∧ (caT ht sta nt = 2)) ∨ (E = "java/lang/IllegalStateException" ∧ (caT ht sta nt = 3))) (fun (u : Unit) => ([(aR, .inr (11, [.ref aG, .ref aP, .ref aH, .ref aY, .ref aT, .ref aS, .ref aF, .ref aX, .int (iI pr), .int (iI tk), .int (iI tol), .int (iI hou)])), (aY, .inr (10, [.ref aYh, .ref aYt, .ref aYc])), (aYh, .inl (gI g, 3, .inl (ar ht))), (aYt, .inl (gI g, 36, .inl (ar yt))), (aYc, .inl (gI g, 36, .inl (ar yc)))] : va_W))) args s 3 18 A := ⟨_, rfl⟩
  have hP : va_P (gD g) vwCl [(aR, .inr (11, [.ref aG, .ref aP, .ref aH, .ref aY, .ref aT, .ref aS, .ref aF, .ref aX, .int (iI pr), .int (iI tk), .int (iI tol), .int (iI hou)])), (aY, .inr (10, [.ref aYh, .ref aYt, .ref aYc])), (aYh, .inl (gI g, 3, .inl (ar ht))), (aYt, .inl (gI g, 36, .inl (ar yt))), (aYc, .inl (gI g, 36, .inl (ar yc)))] H := by rw [hH]; exact hP
  have hS : va_S A s.heap H locs := by rw [hH, hlo]; exact hS
  have goal_ : W p l e { frames := 7, cells := 3, slots := 18, locals := 114 } s m args below meth c H locs 0 0 Q9 (F0 m 0 ls []) := by
    clear hH hlo
    have hbs := hb_ht sta
    refine lv_iload_n hx hb dX8_cast_0 rfl (lv_at hl 1 rfl) ?_
    refine x_callvX (S := Unit) (SX := Unit) (wc := []) (wr := [(aR, .inr (11, [.ref aG, .ref aP, .ref aH, .ref aY, .ref aT, .ref aS, .ref aF, .ref aX, .int (iI pr), .int (iI tk), .int (iI tol), .int (iI hou)])), (aY, .inr (10, [.ref aYh, .ref aYt, .ref aYc])), (aYh, .inl (gI g, 3, .inl (ar ht))), (aYt, .inl (gI g, 36, .inl (ar yt))), (aYc, .inl (gI g, 36, .inl (ar yc)))]) hC hP hD hS hA [] [0, 1, 2, 3, 4] [0, 1, 2, 3, 4] rfl rfl (fun hpre => vx_runS (As := [.int (iI sta)]) (rest := []) ⟨hx, hb, hml, hown, hts⟩ (c_X8_checkStack l hflags g H.size sta (by first | (first | assumption | omega | exact bnd_up (by assumption) (by omega) (by omega)) | fail "q8")) (va_cwS 1 hts gX8_cast_X8_checkStack rfl rfl rfl (by decide +kernel) ⟨Nat.le_of_ble_eq_true rfl, Nat.le_of_ble_eq_true rfl⟩) ⟨xB_blind, hpre _⟩ rfl rfl hl.1 rfl (lv_room (Nat.le_of_ble_eq_true rfl)) dX8_cast_1 ⟨Nat.le_of_ble_eq_true rfl, Nat.le_of_ble_eq_true rfl⟩) (fun (u : Unit) => [(aR, .inr (11, [.ref aG, .ref aP, .ref aH, .ref aY, .ref aT, .ref aS, .ref aF, .ref aX, .int (iI pr), .int (iI tk), .int (iI tol), .int (iI hou)])), (aY, .inr (10, [.ref aYh, .ref aYt, .ref aYc])), (aYh, .inl (gI g, 3, .inl (ar ht))), (aYt, .inl (gI g, 36, .inl (ar yt))), (aYc, .inl (gI g, 36, .inl (ar yc)))]) (fun (u : Unit) => ([(aR, .inr (11, [.ref aG, .ref aP, .ref aH, .ref aY, .ref aT, .ref aS, .ref aF, .ref aX, .int (iI pr), .int (iI tk), .int (iI tol), .int (iI hou)])), (aY, .inr (10, [.ref aYh, .ref aYt, .ref aYc])), (aYh, .inl (gI g, 3, .inl (ar ht))), (aYt, .inl (gI g, 36, .inl (ar yt))), (aYc, .inl (gI g, 36, .inl (ar yc)))] : va_W)) rfl rfl (by decide) (fun _ => rfl) (fun _ => rfl) rfl (fun E ce q9 u H locs hXP hPX hP hD hS hcell hv9 hcl => ?_) (fun u H locs hv_1 hP hD hS => ?_)
    · skip
      have hP : va_P (gD g) vwCl [(aR, .inr (11, [.ref aG, .ref aP, .ref aH, .ref aY, .ref aT, .ref aS, .ref aF, .ref aX, .int (iI pr), .int (iI tk), .int (iI tol), .int (iI hou)])), (aY, .inr (10, [.ref aYh, .ref aYt, .ref aYc])), (aYh, .inl (gI g, 3, .inl (ar ht))), (aYt, .inl (gI g, 36, .inl (ar yt))), (aYc, .inl (gI g, 36, .inl (ar yc)))] H := hP
      have hD : va_D A [(aR, .inr (11, [.ref aG, .ref aP, .ref aH, .ref aY, .ref aT, .ref aS, .ref aF, .ref aX, .int (iI pr), .int (iI tk), .int (iI tol), .int (iI hou)])), (aY, .inr (10, [.ref aYh, .ref aYt, .ref aYc])), (aYh, .inl (gI g, 3, .inl (ar ht))), (aYt, .inl (gI g, 36, .inl (ar yt))), (aYc, .inl (gI g, 36, .inl (ar yc)))] := hD
      obtain ⟨hE, hp⟩ := hPX
      have hp : ¬ (0 ≤ sta ∧ sta ≤ 2) := hp
      subst hE
      rw [hQ9]
      exact x_out hout hlocks hP hD hS hcell hv9 hcl () trivial (Or.inl ⟨rfl, (by
          first
          | (
             unfold caT
             omega)
          | fail "q9")⟩) rfl (Nat.le_of_ble_eq_true rfl) (Nat.le_of_ble_eq_true rfl)
    · skip
      have hP : va_P (gD g) vwCl [(aR, .inr (11, [.ref aG, .ref aP, .ref aH, .ref aY, .ref aT, .ref aS, .ref aF, .ref aX, .int (iI pr), .int (iI tk), .int (iI tol), .int (iI hou)])), (aY, .inr (10, [.ref aYh, .ref aYt, .ref aYc])), (aYh, .inl (gI g, 3, .inl (ar ht))), (aYt, .inl (gI g, 36, .inl (ar yt))), (aYc, .inl (gI g, 36, .inl (ar yc)))] H := hP
      have hD : va_D A [(aR, .inr (11, [.ref aG, .ref aP, .ref aH, .ref aY, .ref aT, .ref aS, .ref aF, .ref aX, .int (iI pr), .int (iI tk), .int (iI tol), .int (iI hou)])), (aY, .inr (10, [.ref aYh, .ref aYt, .ref aYc])), (aYh, .inl (gI g, 3, .inl (ar ht))), (aYt, .inl (gI g, 36, .inl (ar yt))), (aYc, .inl (gI g, 36, .inl (ar yc)))] := hD
      obtain ⟨tv_1, pv_1⟩ := hv_1
      have tv_1 : 0 ≤ sta ∧ sta ≤ 2 := tv_1
      refine lv_iload_n hx hb dX8_cast_4 rfl (lv_at hl 2 rfl) ?_
      refine x_iconst hx hb dX8_cast_5 ?_
      refine x_bipush hx hb dX8_cast_6 (by decide) ?_
      refine x_callvX (S := Unit) (SX := Unit) (wc := []) (wr := [(aR, .inr (11, [.ref aG, .ref aP, .ref aH, .ref aY, .ref aT, .ref aS, .ref aF, .ref aX, .int (iI pr), .int (iI tk), .int (iI tol), .int (iI hou)])), (aY, .inr (10, [.ref aYh, .ref aYt, .ref aYc])), (aYh, .inl (gI g, 3, .inl (ar ht))), (aYt, .inl (gI g, 36, .inl (ar yt))), (aYc, .inl (gI g, 36, .inl (ar yc)))]) hC hP hD hS hA [] [0, 1, 2, 3, 4] [0, 1, 2, 3, 4] rfl rfl (fun hpre => vx_runS (As := [.int (iI nt), .int (iI 0), .int (iI 9)]) (rest := []) ⟨hx, hb, hml, hown, hts⟩ (c_X8_checkRange l hflags g H.size nt 0 9 (by first | (first | assumption | omega | exact bnd_up (by assumption) (by omega) (by omega)) | fail "q8") (by first | (first | assumption | omega | exact bnd_up (by assumption) (by omega) (by omega)) | fail "q8") (by first | (first | assumption | omega | exact bnd_up (by assumption) (by omega) (by omega)) | fail "q8")) (va_cwS 3 hts gX8_cast_X8_checkRange rfl rfl rfl (by decide +kernel) ⟨Nat.le_of_ble_eq_true rfl, Nat.le_of_ble_eq_true rfl⟩) ⟨xB_blind, hpre _⟩ rfl rfl hl.1 rfl (lv_room (Nat.le_of_ble_eq_true rfl)) dX8_cast_8 ⟨Nat.le_of_ble_eq_true rfl, Nat.le_of_ble_eq_true rfl⟩) (fun (u : Unit) => [(aR, .inr (11, [.ref aG, .ref aP, .ref aH, .ref aY, .ref aT, .ref aS, .ref aF, .ref aX, .int (iI pr), .int (iI tk), .int (iI tol), .int (iI hou)])), (aY, .inr (10, [.ref aYh, .ref aYt, .ref aYc])), (aYh, .inl (gI g, 3, .inl (ar ht))), (aYt, .inl (gI g, 36, .inl (ar yt))), (aYc, .inl (gI g, 36, .inl (ar yc)))]) (fun (u : Unit) => ([(aR, .inr (11, [.ref aG, .ref aP, .ref aH, .ref aY, .ref aT, .ref aS, .ref aF, .ref aX, .int (iI pr), .int (iI tk), .int (iI tol), .int (iI hou)])), (aY, .inr (10, [.ref aYh, .ref aYt, .ref aYc])), (aYh, .inl (gI g, 3, .inl (ar ht))), (aYt, .inl (gI g, 36, .inl (ar yt))), (aYc, .inl (gI g, 36, .inl (ar yc)))] : va_W)) rfl rfl (by decide) (fun _ => rfl) (fun _ => rfl) rfl (fun E ce q9 u H locs hXP hPX hP hD hS hcell hv9 hcl => ?_) (fun u H locs hv_2 hP hD hS => ?_)
      · skip
        have hP : va_P (gD g) vwCl [(aR, .inr (11, [.ref aG, .ref aP, .ref aH, .ref aY, .ref aT, .ref aS, .ref aF, .ref aX, .int (iI pr), .int (iI tk), .int (iI tol), .int (iI hou)])), (aY, .inr (10, [.ref aYh, .ref aYt, .ref aYc])), (aYh, .inl (gI g, 3, .inl (ar ht))), (aYt, .inl (gI g, 36, .inl (ar yt))), (aYc, .inl (gI g, 36, .inl (ar yc)))] H := hP
        have hD : va_D A [(aR, .inr (11, [.ref aG, .ref aP, .ref aH, .ref aY, .ref aT, .ref aS, .ref aF, .ref aX, .int (iI pr), .int (iI tk), .int (iI tol), .int (iI hou)])), (aY, .inr (10, [.ref aYh, .ref aYt, .ref aYc])), (aYh, .inl (gI g, 3, .inl (ar ht))), (aYt, .inl (gI g, 36, .inl (ar yt))), (aYc, .inl (gI g, 36, .inl (ar yc)))] := hD
        obtain ⟨hE, hp⟩ := hPX
        have hp : ¬ (0 ≤ nt ∧ nt ≤ 9) := hp
        subst hE
        rw [hQ9]
        exact x_out hout hlocks hP hD hS hcell hv9 hcl () trivial (Or.inr (Or.inl ⟨rfl, (by
            first
            | (
               unfold caT
               omega)
            | fail "q9")⟩)) rfl (Nat.le_of_ble_eq_true rfl) (Nat.le_of_ble_eq_true rfl)
      · skip
        have hP : va_P (gD g) vwCl [(aR, .inr (11, [.ref aG, .ref aP, .ref aH, .ref aY, .ref aT, .ref aS, .ref aF, .ref aX, .int (iI pr), .int (iI tk), .int (iI tol), .int (iI hou)])), (aY, .inr (10, [.ref aYh, .ref aYt, .ref aYc])), (aYh, .inl (gI g, 3, .inl (ar ht))), (aYt, .inl (gI g, 36, .inl (ar yt))), (aYc, .inl (gI g, 36, .inl (ar yc)))] H := hP
        have hD : va_D A [(aR, .inr (11, [.ref aG, .ref aP, .ref aH, .ref aY, .ref aT, .ref aS, .ref aF, .ref aX, .int (iI pr), .int (iI tk), .int (iI tol), .int (iI hou)])), (aY, .inr (10, [.ref aYh, .ref aYt, .ref aYc])), (aYh, .inl (gI g, 3, .inl (ar ht))), (aYt, .inl (gI g, 36, .inl (ar yt))), (aYc, .inl (gI g, 36, .inl (ar yc)))] := hD
        obtain ⟨tv_2, pv_2⟩ := hv_2
        have tv_2 : 0 ≤ nt ∧ nt ≤ 9 := tv_2
        refine lv_aload_n hx hb dX8_cast_11 rfl (lv_at hl 0 rfl) ?_
        refine va_get (D := gD g) (ci := 11) (v := .ref aY) (C := RX8) (T := TX8) (N := 12) hx hb hts hin8 hown hK hP 0 rfl rfl 3 (by decide) (hts (.fieldLink RX8 33 "TunnelRing" "yard" "LTunnelRing$Yard;") (List.mem_of_getElem? (i := 3) rfl)) (fun _ h9 => h9) rfl dX8_cast_12 ?_
        refine lv_iload_n hx hb dX8_cast_15 rfl (lv_at hl 1 rfl) ?_
        refine x_calli (S := Unit) (wc := [(aY, .inr (10, [.ref aYh, .ref aYt, .ref aYc])), (aYh, .inl (gI g, 3, .inl (ar ht)))]) (wr := [(aR, .inr (11, [.ref aG, .ref aP, .ref aH, .ref aY, .ref aT, .ref aS, .ref aF, .ref aX, .int (iI pr), .int (iI tk), .int (iI tol), .int (iI hou)])), (aYt, .inl (gI g, 36, .inl (ar yt))), (aYc, .inl (gI g, 36, .inl (ar yc)))]) hC hP hD hS hA [1, 2] [0, 3, 4] [0, 3, 4, 1, 2] rfl rfl (fun hpre => va_runV (As := [.int (iI sta)]) (rest := []) ⟨hx, hb, hml, hown, hts⟩ (c_X7_isFull l g H.size aY aYh aYt aYc sta ht (by first | (first | assumption | omega | exact bnd_up (by assumption) (by omega) (by omega)) | fail "q8") (by first | (first | assumption | omega | exact bnd_up (by assumption) (by omega) (by omega)) | fail "q8")) (cwV 1 hts gX8_cast_X7_isFull rfl rfl rfl (by decide +kernel) ⟨Nat.le_of_ble_eq_true rfl, Nat.le_of_ble_eq_true rfl⟩) ⟨xB_blind, va_recv hK hP (ci := 10) (q0 := 1) rfl rfl, hpre _⟩ rfl rfl hl.1 rfl (lv_room (Nat.le_of_ble_eq_true rfl)) dX8_cast_16 ⟨Nat.le_of_ble_eq_true rfl, Nat.le_of_ble_eq_true rfl⟩) (fun (u : Unit) => [(aR, .inr (11, [.ref aG, .ref aP, .ref aH, .ref aY, .ref aT, .ref aS, .ref aF, .ref aX, .int (iI pr), .int (iI tk), .int (iI tol), .int (iI hou)])), (aY, .inr (10, [.ref aYh, .ref aYt, .ref aYc])), (aYh, .inl (gI g, 3, .inl (ar ht))), (aYt, .inl (gI g, 36, .inl (ar yt))), (aYc, .inl (gI g, 36, .inl (ar yc)))]) rfl rfl (by decide) (fun _ => rfl) rfl (fun u v_3 H locs hv_3 pv_3 hP hD hS => ?_)
        have hP : va_P (gD g) vwCl [(aR, .inr (11, [.ref aG, .ref aP, .ref aH, .ref aY, .ref aT, .ref aS, .ref aF, .ref aX, .int (iI pr), .int (iI tk), .int (iI tol), .int (iI hou)])), (aY, .inr (10, [.ref aYh, .ref aYt, .ref aYc])), (aYh, .inl (gI g, 3, .inl (ar ht))), (aYt, .inl (gI g, 36, .inl (ar yt))), (aYc, .inl (gI g, 36, .inl (ar yc)))] H := hP
        have hD : va_D A [(aR, .inr (11, [.ref aG, .ref aP, .ref aH, .ref aY, .ref aT, .ref aS, .ref aF, .ref aX, .int (iI pr), .int (iI tk), .int (iI tol), .int (iI hou)])), (aY, .inr (10, [.ref aYh, .ref aYt, .ref aYc])), (aYh, .inl (gI g, 3, .inl (ar ht))), (aYt, .inl (gI g, 36, .inl (ar yt))), (aYc, .inl (gI g, 36, .inl (ar yc)))] := hD
        have hv_3 : v_3 = bI (ht sta = 12) := hv_3
        refine x_top hv_3 ?_
        refine x_ifb_eq (tgt := 32) (P := ht sta = 12) hx hb dX8_cast_19 (by decide) (fun c_4 => ?_) (fun c_4 => ?_)
        · skip
          refine lv_aload_n hx hb dX8_cast_32 rfl (lv_at hl 0 rfl) ?_
          refine va_get (D := gD g) (ci := 11) (v := .ref aY) (C := RX8) (T := TX8) (N := 12) hx hb hts hin8 hown hK hP 0 rfl rfl 3 (by decide) (hts (.fieldLink RX8 33 "TunnelRing" "yard" "LTunnelRing$Yard;") (List.mem_of_getElem? (i := 3) rfl)) (fun _ h9 => h9) rfl dX8_cast_33 ?_
          refine lv_iload_n hx hb dX8_cast_36 rfl (lv_at hl 1 rfl) ?_
          refine lv_iload_n hx hb dX8_cast_37 rfl (lv_at hl 2 rfl) ?_
          refine lv_aload_n hx hb dX8_cast_38 rfl (lv_at hl 0 rfl) ?_
          refine va_get (D := gD g) (ci := 11) (v := .int (iI hou)) (C := RX8) (T := TX8) (N := 12) hx hb hts hin8 hown hK hP 0 rfl rfl 11 (by decide) (hts (.fieldLink RX8 75 "TunnelRing" "hour" "I") (List.mem_of_getElem? (i := 4) rfl)) (fun _ h9 => h9) rfl dX8_cast_39 ?_
          refine x_callv (S := Unit) (wc := [(aY, .inr (10, [.ref aYh, .ref aYt, .ref aYc])), (aYh, .inl (gI g, 3, .inl (ar ht))), (aYt, .inl (gI g, 36, .inl (ar yt))), (aYc, .inl (gI g, 36, .inl (ar yc)))]) (wr := [(aR, .inr (11, [.ref aG, .ref aP, .ref aH, .ref aY, .ref aT, .ref aS, .ref aF, .ref aX, .int (iI pr), .int (iI tk), .int (iI tol), .int (iI hou)]))]) hC hP hD hS hA [1, 2, 3, 4] [0] [0, 1, 2, 3, 4] rfl rfl (fun hpre => va_runV (As := [.int (iI sta), .int (iI nt), .int (iI hou)]) (rest := []) ⟨hx, hb, hml, hown, hts⟩ (c_X7_put l g H.size aY aYh aYt aYc sta nt hou ht yt yc (by first | (first | assumption | omega | exact bnd_up (by assumption) (by omega) (by omega)) | fail "q8") (by first | (first | assumption | omega | exact bnd_up (by assumption) (by omega) (by omega)) | fail "q8") (by first | (first | assumption | omega | exact bnd_up (by assumption) (by omega) (by omega)) | fail "q8")) (cwV 3 hts gX8_cast_X7_put rfl rfl rfl (by decide +kernel) ⟨Nat.le_of_ble_eq_true rfl, Nat.le_of_ble_eq_true rfl⟩) ⟨xB_blind, va_recv hK hP (ci := 10) (q0 := 1) rfl rfl, hpre _⟩ rfl rfl hl.1 rfl (lv_room (Nat.le_of_ble_eq_true rfl)) dX8_cast_42 ⟨Nat.le_of_ble_eq_true rfl, Nat.le_of_ble_eq_true rfl⟩) (fun (u : Unit) => [(aR, .inr (11, [.ref aG, .ref aP, .ref aH, .ref aY, .ref aT, .ref aS, .ref aF, .ref aX, .int (iI pr), .int (iI tk), .int (iI tol), .int (iI hou)])), (aY, .inr (10, [.ref aYh, .ref aYt, .ref aYc])), (aYh, .inl (gI g, 3, .inl (ar (up ht sta (ht sta + 1))))), (aYt, .inl (gI g, 36, .inl (ar (up yt (sta * 12 + ht sta) nt)))), (aYc, .inl (gI g, 36, .inl (ar (up yc (sta * 12 + ht sta) hou))))]) rfl rfl (by decide) (fun _ => rfl) rfl (fun u H locs hv_5 hP hD hS => ?_)
          have hP : va_P (gD g) vwCl [(aR, .inr (11, [.ref aG, .ref aP, .ref aH, .ref aY, .ref aT, .ref aS, .ref aF, .ref aX, .int (iI pr), .int (iI tk), .int (iI tol), .int (iI hou)])), (aY, .inr (10, [.ref aYh, .ref aYt, .ref aYc])), (aYh, .inl (gI g, 3, .inl (ar (up ht sta (ht sta + 1))))), (aYt, .inl (gI g, 36, .inl (ar (up yt (sta * 12 + ht sta) nt)))), (aYc, .inl (gI g, 36, .inl (ar (up yc (sta * 12 + ht sta) hou))))] H := hP
          have hD : va_D A [(aR, .inr (11, [.ref aG, .ref aP, .ref aH, .ref aY, .ref aT, .ref aS, .ref aF, .ref aX, .int (iI pr), .int (iI tk), .int (iI tol), .int (iI hou)])), (aY, .inr (10, [.ref aYh, .ref aYt, .ref aYc])), (aYh, .inl (gI g, 3, .inl (ar (up ht sta (ht sta + 1))))), (aYt, .inl (gI g, 36, .inl (ar (up yt (sta * 12 + ht sta) nt)))), (aYc, .inl (gI g, 36, .inl (ar (up yc (sta * 12 + ht sta) hou))))] := hD
          refine lv_aload_n hx hb dX8_cast_45 rfl (lv_at hl 0 rfl) ?_
          refine va_get (D := gD g) (ci := 11) (v := .ref aY) (C := RX8) (T := TX8) (N := 12) hx hb hts hin8 hown hK hP 0 rfl rfl 3 (by decide) (hts (.fieldLink RX8 33 "TunnelRing" "yard" "LTunnelRing$Yard;") (List.mem_of_getElem? (i := 3) rfl)) (fun _ h9 => h9) rfl dX8_cast_46 ?_
          refine va_get (D := gD g) (ci := 10) (v := .ref aYh) (C := RX7) (T := TX7) (N := 3) hx hb hts hin7 hown hK hP 1 rfl rfl 0 (by decide) (hts (.fieldLink RX8 138 "TunnelRing$Yard" "height" "[I") (List.mem_of_getElem? (i := 5) rfl)) (fun _ h9 => h9) rfl dX8_cast_49 ?_
          refine lv_iload_n hx hb dX8_cast_52 rfl (lv_at hl 1 rfl) ?_
          refine x_iald hx hb hK hP 2 0 rfl rfl (by omega) (by omega) (Nat.le_of_ble_eq_true rfl) dX8_cast_53 (fun v_6 hv_6 => ?_)
          rw [hQ9]
          exact vx_ret (x_iret hx hb hr hlocks hP hD hS (S := Unit) rfl dX8_cast_54 () (by
              first
              | (
                 subst_vars
                 first | rfl | exact up_eq _ _ _ | omega)
              | fail "q9") ⟨(by
              first
              | (
                 unfold caT
                 omega)
              | fail "q9"), trivial⟩ rfl (Nat.le_of_ble_eq_true rfl) (Nat.le_of_ble_eq_true rfl))
        · skip
          rw [hQ9]
          exact x_throwS hx hb hflags hown (by decide +kernel) (by decide +kernel) (hts (.classLink RX8 85 "java/lang/IllegalStateException") (List.mem_of_getElem? (i := 1) rfl)) (hts (.initialized "java/lang/IllegalStateException") (List.mem_of_getElem? (i := 2) rfl)) (hC.2.2.2.2.2.1 _ (List.mem_of_getElem? (i := 2) rfl)) (vx_hat (B := [.castable "java/lang/IllegalStateException" "java/lang/IllegalStateException", .declares (Bundle.initS "java/lang/RuntimeException"), .declares (Bundle.initS "java/lang/Exception"), .declares (Bundle.initS "java/lang/Throwable")]) (fun w h => hts w (List.mem_cons_of_mem _ (List.mem_append_left _ (List.mem_append_left _ (List.mem_append_left _ (List.mem_append_right _ h)))))) (by decide +kernel) (vx_c (va_Nw.use rfl (hC.2.2.2.2.2.2.2.2.2.2.1 "java/lang/IllegalStateException" (List.mem_of_getElem? (i := 1) rfl))) (vx_c (va_Nw.use rfl (hC.2.2.2.2.2.2.2.2.2.2.2.1 "java/lang/RuntimeException" (List.mem_of_getElem? (i := 0) rfl))) (vx_c (va_Nw.use rfl (hC.2.2.2.2.2.2.2.2.2.2.2.1 "java/lang/Exception" (List.mem_of_getElem? (i := 1) rfl))) (vx_c (va_Nw.use rfl (hC.2.2.2.2.2.2.2.2.2.2.2.1 "java/lang/Throwable" (List.mem_of_getElem? (i := 2) rfl))) vx_n))))) (by decide +kernel) hC hP hD hS (hl.1.trans hml.symm) dX8_cast_22 dX8_cast_25 dX8_cast_26 dX8_cast_28 dX8_cast_31 hout (Nat.le_of_ble_eq_true rfl) (Nat.le_of_ble_eq_true rfl) (Nat.le_of_ble_eq_true rfl) (Nat.le_of_ble_eq_true rfl) hlocks () trivial (Or.inr (Or.inr ⟨rfl, (by
              first
              | (
                 unfold caT
                 omega)
              | fail "q9")⟩)) rfl (Nat.le_of_ble_eq_true rfl) (Nat.le_of_ble_eq_true rfl)
  rw [hH, hlo, hQ9] at goal_
  exact goal_

set_option maxHeartbeats 4000000 in
set_option maxRecDepth 100000 in
theorem c_X8_heightOf (l : Launch) (hflags : l.stackTraces = false) (g : xg) (sz : Nat) (aR aG aP aH aY aT aS aF aX aYh aYt aYc : Nat) (pr tk tol hou sta : Int) (ht : Int → Int) (hb_ht : bnd ht 0 12) (hr_sta : iR sta) : vx_Met l yX8_heightOf wsX8_heightOf { frames := 7, cells := 1, slots := 6, locals := 112 } (va_Pc [.ref aR, .int (iI sta)] (xB g [(aR, .inr (11, [.ref aG, .ref aP, .ref aH, .ref aY, .ref aT, .ref aS, .ref aF, .ref aX, .int (iI pr), .int (iI tk), .int (iI tol), .int (iI hou)])), (aY, .inr (10, [.ref aYh, .ref aYt, .ref aYc])), (aYh, .inl (gI g, 3, .inl (ar ht)))] sz)) (va_Qi (fun r u => r = iI ((fun (u : Unit) => ht sta) u) ∧ (fun (u : Unit) => (stT sta = 0) ∧ (True)) u) (fun u t => xE g (va_A [(aR, .inr (11, [.ref aG, .ref aP, .ref aH, .ref aY, .ref aT, .ref aS, .ref aF, .ref aX, .int (iI pr), .int (iI tk), .int (iI tol), .int (iI hou)])), (aY, .inr (10, [.ref aYh, .ref aYt, .ref aYc])), (aYh, .inl (gI g, 3, .inl (ar ht)))] sz) ((fun (u : Unit) => [(aR, .inr (11, [.ref aG, .ref aP, .ref aH, .ref aY, .ref aT, .ref aS, .ref aF, .ref aX, .int (iI pr), .int (iI tk), .int (iI tol), .int (iI hou)])), (aY, .inr (10, [.ref aYh, .ref aYt, .ref aYc])), (aYh, .inl (gI g, 3, .inl (ar ht)))]) u) t) (va_A [(aR, .inr (11, [.ref aG, .ref aP, .ref aH, .ref aY, .ref aT, .ref aS, .ref aF, .ref aX, .int (iI pr), .int (iI tk), .int (iI tol), .int (iI hou)])), (aY, .inr (10, [.ref aYh, .ref aYt, .ref aYc])), (aYh, .inl (gI g, 3, .inl (ar ht)))] sz)) (xX g (va_A [(aR, .inr (11, [.ref aG, .ref aP, .ref aH, .ref aY, .ref aT, .ref aS, .ref aF, .ref aX, .int (iI pr), .int (iI tk), .int (iI tol), .int (iI hou)])), (aY, .inr (10, [.ref aYh, .ref aYt, .ref aYc])), (aYh, .inl (gI g, 3, .inl (ar ht)))] sz) (fun (u : Unit) => True) (fun E : String => (E = "java/lang/IndexOutOfBoundsException" ∧ (stT sta = 1))) (fun (u : Unit) => ([(aR, .inr (11, [.ref aG, .ref aP, .ref aH, .ref aY, .ref aT, .ref aS, .ref aF, .ref aX, .int (iI pr), .int (iI tk), .int (iI tol), .int (iI hou)])), (aY, .inr (10, [.ref aYh, .ref aYt, .ref aYc])), (aYh, .inl (gI g, 3, .inl (ar ht)))] : va_W))) 1 6 (va_A [(aR, .inr (11, [.ref aG, .ref aP, .ref aH, .ref aY, .ref aT, .ref aS, .ref aF, .ref aX, .int (iI pr), .int (iI tk), .int (iI tol), .int (iI hou)])), (aY, .inr (10, [.ref aYh, .ref aYt, .ref aYc])), (aYh, .inl (gI g, 3, .inl (ar ht)))] sz) := by
  refine x_enterX (y := yX8_heightOf) (ws := wsX8_heightOf) (g := g) (sz := sz) (av := [.ref aR, .int (iI sta)]) (WS := [(aR, .inr (11, [.ref aG, .ref aP, .ref aH, .ref aY, .ref aT, .ref aS, .ref aF, .ref aX, .int (iI pr), .int (iI tk), .int (iI tol), .int (iI hou)])), (aY, .inr (10, [.ref aYh, .ref aYt, .ref aYc])), (aYh, .inl (gI g, 3, .inl (ar ht)))]) (cc := cX8_heightOf) (maxL := 2) (ret := some .int) (Qc := (fun A => (va_Qi (fun r u => r = iI ((fun (u : Unit) => ht sta) u) ∧ (fun (u : Unit) => (stT sta = 0) ∧ (True)) u) (fun u t => xE g A ((fun (u : Unit) => [(aR, .inr (11, [.ref aG, .ref aP, .ref aH, .ref aY, .ref aT, .ref aS, .ref aF, .ref aX, .int (iI pr), .int (iI tk), .int (iI tol), .int (iI hou)])), (aY, .inr (10, [.ref aYh, .ref aYt, .ref aYc])), (aYh, .inl (gI g, 3, .inl (ar ht)))]) u) t) A))) (XC := (fun A => (xX g A (fun (u : Unit) => True) (fun E : String => (E = "java/lang/IndexOutOfBoundsException" ∧ (stT sta = 1))) (fun (u : Unit) => ([(aR, .inr (11, [.ref aG, .ref aP, .ref aH, .ref aY, .ref aT, .ref aS, .ref aF, .ref aX, .int (iI pr), .int (iI tk), .int (iI tol), .int (iI hou)])), (aY, .inr (10, [.ref aYh, .ref aYt, .ref aYc])), (aYh, .inl (gI g, 3, .inl (ar ht)))] : va_W))))) (by decide) rfl (Nat.le_of_ble_eq_true rfl) ?_
  intro p e s m args below meth c A ls hx hb hr hml hown hts hlocks hout hC hP hD hS hA hl
  have hK := hC.1
  have hown : s.vm.findClass RX8 = some m.cls := hown
  have hin7 : ∀ w ∈ u_ws RX7 TX7 3, w ∈ wsX8_heightOf := by decide +kernel
  have hin8 : ∀ w ∈ u_ws RX8 TX8 12, w ∈ wsX8_heightOf := by decide +kernel
  have hl : lv_has ls 2 [(0, .ref aR), (1, .int (iI sta))] := hl
  obtain ⟨H, hH⟩ : ∃ z, z = s.heap := ⟨_, rfl⟩
  obtain ⟨locs, hlo⟩ : ∃ z : List Loc, z = [] := ⟨_, rfl⟩
  obtain ⟨Q9, hQ9⟩ : ∃ z, z = vx_MQ below (va_Qi (fun r u => r = iI ((fun (u : Unit) => ht sta) u) ∧ (fun (u : Unit) => (stT sta = 0) ∧ (True)) u) (fun u t => xE g A ((fun (u : Unit) => [(aR, .inr (11, [.ref aG, .ref aP, .ref aH, .ref aY, .ref aT, .ref aS, .ref aF, .ref aX, .int (iI pr), .int (iI tk), .int (iI tol), .int (iI hou)])), (aY, .inr (10, [.ref aYh, .ref aYt, .ref aYc])), (aYh, .inl (gI g, 3, .inl (ar ht)))]) u) t) A) (xX g A (fun (u : Unit) => True) (fun E : String => (E = "java/lang/IndexOutOfBoundsException" ∧ (stT sta = 1))) (fun (u : Unit) => ([(aR, .inr (11, [.ref aG, .ref aP, .ref aH, .ref aY, .ref aT, .ref aS, .ref aF, .ref aX, .int (iI pr), .int (iI tk), .int (iI tol), .int (iI hou)])), (aY, .inr (10, [.ref aYh, .ref aYt, .ref aYc])), (aYh, .inl (gI g, 3, .inl (ar ht)))] : va_W))) args s 1 6 A := ⟨_, rfl⟩
  have hP : va_P (gD g) vwCl [(aR, .inr (11, [.ref aG, .ref aP, .ref aH, .ref aY, .ref aT, .ref aS, .ref aF, .ref aX, .int (iI pr), .int (iI tk), .int (iI tol), .int (iI hou)])), (aY, .inr (10, [.ref aYh, .ref aYt, .ref aYc])), (aYh, .inl (gI g, 3, .inl (ar ht)))] H := by rw [hH]; exact hP
  have hS : va_S A s.heap H locs := by rw [hH, hlo]; exact hS
  have goal_ : W p l e { frames := 7, cells := 1, slots := 6, locals := 112 } s m args below meth c H locs 0 0 Q9 (F0 m 0 ls []) := by
    clear hH hlo
    refine lv_iload_n hx hb dX8_heightOf_0 rfl (lv_at hl 1 rfl) ?_
    refine x_callvX (S := Unit) (SX := Unit) (wc := []) (wr := [(aR, .inr (11, [.ref aG, .ref aP, .ref aH, .ref aY, .ref aT, .ref aS, .ref aF, .ref aX, .int (iI pr), .int (iI tk), .int (iI tol), .int (iI hou)])), (aY, .inr (10, [.ref aYh, .ref aYt, .ref aYc])), (aYh, .inl (gI g, 3, .inl (ar ht)))]) hC hP hD hS hA [] [0, 1, 2] [0, 1, 2] rfl rfl (fun hpre => vx_runS (As := [.int (iI sta)]) (rest := []) ⟨hx, hb, hml, hown, hts⟩ (c_X8_checkStack l hflags g H.size sta (by first | (first | assumption | omega | exact bnd_up (by assumption) (by omega) (by omega)) | fail "q8")) (va_cwS 1 hts gX8_heightOf_X8_checkStack rfl rfl rfl (by decide +kernel) ⟨Nat.le_of_ble_eq_true rfl, Nat.le_of_ble_eq_true rfl⟩) ⟨xB_blind, hpre _⟩ rfl rfl hl.1 rfl (lv_room (Nat.le_of_ble_eq_true rfl)) dX8_heightOf_1 ⟨Nat.le_of_ble_eq_true rfl, Nat.le_of_ble_eq_true rfl⟩) (fun (u : Unit) => [(aR, .inr (11, [.ref aG, .ref aP, .ref aH, .ref aY, .ref aT, .ref aS, .ref aF, .ref aX, .int (iI pr), .int (iI tk), .int (iI tol), .int (iI hou)])), (aY, .inr (10, [.ref aYh, .ref aYt, .ref aYc])), (aYh, .inl (gI g, 3, .inl (ar ht)))]) (fun (u : Unit) => ([(aR, .inr (11, [.ref aG, .ref aP, .ref aH, .ref aY, .ref aT, .ref aS, .ref aF, .ref aX, .int (iI pr), .int (iI tk), .int (iI tol), .int (iI hou)])), (aY, .inr (10, [.ref aYh, .ref aYt, .ref aYc])), (aYh, .inl (gI g, 3, .inl (ar ht)))] : va_W)) rfl rfl (by decide) (fun _ => rfl) (fun _ => rfl) rfl (fun E ce q9 u H locs hXP hPX hP hD hS hcell hv9 hcl => ?_) (fun u H locs hv_1 hP hD hS => ?_)
    · skip
      have hP : va_P (gD g) vwCl [(aR, .inr (11, [.ref aG, .ref aP, .ref aH, .ref aY, .ref aT, .ref aS, .ref aF, .ref aX, .int (iI pr), .int (iI tk), .int (iI tol), .int (iI hou)])), (aY, .inr (10, [.ref aYh, .ref aYt, .ref aYc])), (aYh, .inl (gI g, 3, .inl (ar ht)))] H := hP
      have hD : va_D A [(aR, .inr (11, [.ref aG, .ref aP, .ref aH, .ref aY, .ref aT, .ref aS, .ref aF, .ref aX, .int (iI pr), .int (iI tk), .int (iI tol), .int (iI hou)])), (aY, .inr (10, [.ref aYh, .ref aYt, .ref aYc])), (aYh, .inl (gI g, 3, .inl (ar ht)))] := hD
      obtain ⟨hE, hp⟩ := hPX
      have hp : ¬ (0 ≤ sta ∧ sta ≤ 2) := hp
      subst hE
      rw [hQ9]
      exact x_out hout hlocks hP hD hS hcell hv9 hcl () trivial ⟨rfl, (by
          first
          | (
             unfold stT
             omega)
          | fail "q9")⟩ rfl (Nat.le_of_ble_eq_true rfl) (Nat.le_of_ble_eq_true rfl)
    · skip
      have hP : va_P (gD g) vwCl [(aR, .inr (11, [.ref aG, .ref aP, .ref aH, .ref aY, .ref aT, .ref aS, .ref aF, .ref aX, .int (iI pr), .int (iI tk), .int (iI tol), .int (iI hou)])), (aY, .inr (10, [.ref aYh, .ref aYt, .ref aYc])), (aYh, .inl (gI g, 3, .inl (ar ht)))] H := hP
      have hD : va_D A [(aR, .inr (11, [.ref aG, .ref aP, .ref aH, .ref aY, .ref aT, .ref aS, .ref aF, .ref aX, .int (iI pr), .int (iI tk), .int (iI tol), .int (iI hou)])), (aY, .inr (10, [.ref aYh, .ref aYt, .ref aYc])), (aYh, .inl (gI g, 3, .inl (ar ht)))] := hD
      obtain ⟨tv_1, pv_1⟩ := hv_1
      have tv_1 : 0 ≤ sta ∧ sta ≤ 2 := tv_1
      refine lv_aload_n hx hb dX8_heightOf_4 rfl (lv_at hl 0 rfl) ?_
      refine va_get (D := gD g) (ci := 11) (v := .ref aY) (C := RX8) (T := TX8) (N := 12) hx hb hts hin8 hown hK hP 0 rfl rfl 3 (by decide) (hts (.fieldLink RX8 33 "TunnelRing" "yard" "LTunnelRing$Yard;") (List.mem_of_getElem? (i := 1) rfl)) (fun _ h9 => h9) rfl dX8_heightOf_5 ?_
      refine va_get (D := gD g) (ci := 10) (v := .ref aYh) (C := RX7) (T := TX7) (N := 3) hx hb hts hin7 hown hK hP 1 rfl rfl 0 (by decide) (hts (.fieldLink RX8 138 "TunnelRing$Yard" "height" "[I") (List.mem_of_getElem? (i := 2) rfl)) (fun _ h9 => h9) rfl dX8_heightOf_8 ?_
      refine lv_iload_n hx hb dX8_heightOf_11 rfl (lv_at hl 1 rfl) ?_
      refine x_iald hx hb hK hP 2 0 rfl rfl (by omega) (by omega) (Nat.le_of_ble_eq_true rfl) dX8_heightOf_12 (fun v_2 hv_2 => ?_)
      have bv_2 : 0 ≤ v_2 ∧ v_2 ≤ 12 := by rw [hv_2]; exact hb_ht _
      rw [hQ9]
      exact vx_ret (x_iret hx hb hr hlocks hP hD hS (S := Unit) rfl dX8_heightOf_13 () (by
          first
          | (
             first | rfl | omega | (subst_vars; first | rfl | omega))
          | fail "q9") ⟨(by
          first
          | (
             unfold stT
             omega)
          | fail "q9"), trivial⟩ rfl (Nat.le_of_ble_eq_true rfl) (Nat.le_of_ble_eq_true rfl))
  rw [hH, hlo, hQ9] at goal_
  exact goal_

set_option maxHeartbeats 4000000 in
set_option maxRecDepth 100000 in
theorem c_X8_taperAt (l : Launch) (hflags : l.stackTraces = false) (g : xg) (sz : Nat) (aR aG aP aH aY aT aS aF aX aYh aYt aYc : Nat) (pr tk tol hou sta pl : Int) (ht yt : Int → Int) (hb_ht : bnd ht 0 12) (hr_sta : iR sta) (hr_pl : iR pl) : vx_Met l yX8_taperAt wsX8_taperAt { frames := 7, cells := 2, slots := 12, locals := 112 } (va_Pc [.ref aR, .int (iI sta), .int (iI pl)] (xB g [(aR, .inr (11, [.ref aG, .ref aP, .ref aH, .ref aY, .ref aT, .ref aS, .ref aF, .ref aX, .int (iI pr), .int (iI tk), .int (iI tol), .int (iI hou)])), (aY, .inr (10, [.ref aYh, .ref aYt, .ref aYc])), (aYh, .inl (gI g, 3, .inl (ar ht))), (aYt, .inl (gI g, 36, .inl (ar yt)))] sz)) (va_Qi (fun r u => r = iI ((fun (u : Unit) => yt (sta * 12 + pl)) u) ∧ (fun (u : Unit) => (taT ht sta pl = 0) ∧ (True)) u) (fun u t => xE g (va_A [(aR, .inr (11, [.ref aG, .ref aP, .ref aH, .ref aY, .ref aT, .ref aS, .ref aF, .ref aX, .int (iI pr), .int (iI tk), .int (iI tol), .int (iI hou)])), (aY, .inr (10, [.ref aYh, .ref aYt, .ref aYc])), (aYh, .inl (gI g, 3, .inl (ar ht))), (aYt, .inl (gI g, 36, .inl (ar yt)))] sz) ((fun (u : Unit) => [(aR, .inr (11, [.ref aG, .ref aP, .ref aH, .ref aY, .ref aT, .ref aS, .ref aF, .ref aX, .int (iI pr), .int (iI tk), .int (iI tol), .int (iI hou)])), (aY, .inr (10, [.ref aYh, .ref aYt, .ref aYc])), (aYh, .inl (gI g, 3, .inl (ar ht))), (aYt, .inl (gI g, 36, .inl (ar yt)))]) u) t) (va_A [(aR, .inr (11, [.ref aG, .ref aP, .ref aH, .ref aY, .ref aT, .ref aS, .ref aF, .ref aX, .int (iI pr), .int (iI tk), .int (iI tol), .int (iI hou)])), (aY, .inr (10, [.ref aYh, .ref aYt, .ref aYc])), (aYh, .inl (gI g, 3, .inl (ar ht))), (aYt, .inl (gI g, 36, .inl (ar yt)))] sz)) (xX g (va_A [(aR, .inr (11, [.ref aG, .ref aP, .ref aH, .ref aY, .ref aT, .ref aS, .ref aF, .ref aX, .int (iI pr), .int (iI tk), .int (iI tol), .int (iI hou)])), (aY, .inr (10, [.ref aYh, .ref aYt, .ref aYc])), (aYh, .inl (gI g, 3, .inl (ar ht))), (aYt, .inl (gI g, 36, .inl (ar yt)))] sz) (fun (u : Unit) => True) (fun E : String => (E = "java/lang/IndexOutOfBoundsException" ∧ (taT ht sta pl = 1)) ∨ (E = "java/util/NoSuchElementException" ∧ (taT ht sta pl = 2))) (fun (u : Unit) => ([(aR, .inr (11, [.ref aG, .ref aP, .ref aH, .ref aY, .ref aT, .ref aS, .ref aF, .ref aX, .int (iI pr), .int (iI tk), .int (iI tol), .int (iI hou)])), (aY, .inr (10, [.ref aYh, .ref aYt, .ref aYc])), (aYh, .inl (gI g, 3, .inl (ar ht))), (aYt, .inl (gI g, 36, .inl (ar yt)))] : va_W))) 2 12 (va_A [(aR, .inr (11, [.ref aG, .ref aP, .ref aH, .ref aY, .ref aT, .ref aS, .ref aF, .ref aX, .int (iI pr), .int (iI tk), .int (iI tol), .int (iI hou)])), (aY, .inr (10, [.ref aYh, .ref aYt, .ref aYc])), (aYh, .inl (gI g, 3, .inl (ar ht))), (aYt, .inl (gI g, 36, .inl (ar yt)))] sz) := by
  refine x_enterX (y := yX8_taperAt) (ws := wsX8_taperAt) (g := g) (sz := sz) (av := [.ref aR, .int (iI sta), .int (iI pl)]) (WS := [(aR, .inr (11, [.ref aG, .ref aP, .ref aH, .ref aY, .ref aT, .ref aS, .ref aF, .ref aX, .int (iI pr), .int (iI tk), .int (iI tol), .int (iI hou)])), (aY, .inr (10, [.ref aYh, .ref aYt, .ref aYc])), (aYh, .inl (gI g, 3, .inl (ar ht))), (aYt, .inl (gI g, 36, .inl (ar yt)))]) (cc := cX8_taperAt) (maxL := 3) (ret := some .int) (Qc := (fun A => (va_Qi (fun r u => r = iI ((fun (u : Unit) => yt (sta * 12 + pl)) u) ∧ (fun (u : Unit) => (taT ht sta pl = 0) ∧ (True)) u) (fun u t => xE g A ((fun (u : Unit) => [(aR, .inr (11, [.ref aG, .ref aP, .ref aH, .ref aY, .ref aT, .ref aS, .ref aF, .ref aX, .int (iI pr), .int (iI tk), .int (iI tol), .int (iI hou)])), (aY, .inr (10, [.ref aYh, .ref aYt, .ref aYc])), (aYh, .inl (gI g, 3, .inl (ar ht))), (aYt, .inl (gI g, 36, .inl (ar yt)))]) u) t) A))) (XC := (fun A => (xX g A (fun (u : Unit) => True) (fun E : String => (E = "java/lang/IndexOutOfBoundsException" ∧ (taT ht sta pl = 1)) ∨ (E = "java/util/NoSuchElementException" ∧ (taT ht sta pl = 2))) (fun (u : Unit) => ([(aR, .inr (11, [.ref aG, .ref aP, .ref aH, .ref aY, .ref aT, .ref aS, .ref aF, .ref aX, .int (iI pr), .int (iI tk), .int (iI tol), .int (iI hou)])), (aY, .inr (10, [.ref aYh, .ref aYt, .ref aYc])), (aYh, .inl (gI g, 3, .inl (ar ht))), (aYt, .inl (gI g, 36, .inl (ar yt)))] : va_W))))) (by decide) rfl (Nat.le_of_ble_eq_true rfl) ?_
  intro p e s m args below meth c A ls hx hb hr hml hown hts hlocks hout hC hP hD hS hA hl
  have hK := hC.1
  have hown : s.vm.findClass RX8 = some m.cls := hown
  have hin7 : ∀ w ∈ u_ws RX7 TX7 3, w ∈ wsX8_taperAt := by decide +kernel
  have hin8 : ∀ w ∈ u_ws RX8 TX8 12, w ∈ wsX8_taperAt := by decide +kernel
  have hl : lv_has ls 3 [(0, .ref aR), (1, .int (iI sta)), (2, .int (iI pl))] := hl
  obtain ⟨H, hH⟩ : ∃ z, z = s.heap := ⟨_, rfl⟩
  obtain ⟨locs, hlo⟩ : ∃ z : List Loc, z = [] := ⟨_, rfl⟩
  obtain ⟨Q9, hQ9⟩ : ∃ z, z = vx_MQ below (va_Qi (fun r u => r = iI ((fun (u : Unit) => yt (sta * 12 + pl)) u) ∧ (fun (u : Unit) => (taT ht sta pl = 0) ∧ (True)) u) (fun u t => xE g A ((fun (u : Unit) => [(aR, .inr (11, [.ref aG, .ref aP, .ref aH, .ref aY, .ref aT, .ref aS, .ref aF, .ref aX, .int (iI pr), .int (iI tk), .int (iI tol), .int (iI hou)])), (aY, .inr (10, [.ref aYh, .ref aYt, .ref aYc])), (aYh, .inl (gI g, 3, .inl (ar ht))), (aYt, .inl (gI g, 36, .inl (ar yt)))]) u) t) A) (xX g A (fun (u : Unit) => True) (fun E : String => (E = "java/lang/IndexOutOfBoundsException" ∧ (taT ht sta pl = 1)) ∨ (E = "java/util/NoSuchElementException" ∧ (taT ht sta pl = 2))) (fun (u : Unit) => ([(aR, .inr (11, [.ref aG, .ref aP, .ref aH, .ref aY, .ref aT, .ref aS, .ref aF, .ref aX, .int (iI pr), .int (iI tk), .int (iI tol), .int (iI hou)])), (aY, .inr (10, [.ref aYh, .ref aYt, .ref aYc])), (aYh, .inl (gI g, 3, .inl (ar ht))), (aYt, .inl (gI g, 36, .inl (ar yt)))] : va_W))) args s 2 12 A := ⟨_, rfl⟩
  have hP : va_P (gD g) vwCl [(aR, .inr (11, [.ref aG, .ref aP, .ref aH, .ref aY, .ref aT, .ref aS, .ref aF, .ref aX, .int (iI pr), .int (iI tk), .int (iI tol), .int (iI hou)])), (aY, .inr (10, [.ref aYh, .ref aYt, .ref aYc])), (aYh, .inl (gI g, 3, .inl (ar ht))), (aYt, .inl (gI g, 36, .inl (ar yt)))] H := by rw [hH]; exact hP
  have hS : va_S A s.heap H locs := by rw [hH, hlo]; exact hS
  have goal_ : W p l e { frames := 7, cells := 2, slots := 12, locals := 112 } s m args below meth c H locs 0 0 Q9 (F0 m 0 ls []) := by
    clear hH hlo
    refine lv_iload_n hx hb dX8_taperAt_0 rfl (lv_at hl 1 rfl) ?_
    refine x_callvX (S := Unit) (SX := Unit) (wc := []) (wr := [(aR, .inr (11, [.ref aG, .ref aP, .ref aH, .ref aY, .ref aT, .ref aS, .ref aF, .ref aX, .int (iI pr), .int (iI tk), .int (iI tol), .int (iI hou)])), (aY, .inr (10, [.ref aYh, .ref aYt, .ref aYc])), (aYh, .inl (gI g, 3, .inl (ar ht))), (aYt, .inl (gI g, 36, .inl (ar yt)))]) hC hP hD hS hA [] [0, 1, 2, 3] [0, 1, 2, 3] rfl rfl (fun hpre => vx_runS (As := [.int (iI sta)]) (rest := []) ⟨hx, hb, hml, hown, hts⟩ (c_X8_checkStack l hflags g H.size sta (by first | (first | assumption | omega | exact bnd_up (by assumption) (by omega) (by omega)) | fail "q8")) (va_cwS 1 hts gX8_taperAt_X8_checkStack rfl rfl rfl (by decide +kernel) ⟨Nat.le_of_ble_eq_true rfl, Nat.le_of_ble_eq_true rfl⟩) ⟨xB_blind, hpre _⟩ rfl rfl hl.1 rfl (lv_room (Nat.le_of_ble_eq_true rfl)) dX8_taperAt_1 ⟨Nat.le_of_ble_eq_true rfl, Nat.le_of_ble_eq_true rfl⟩) (fun (u : Unit) => [(aR, .inr (11, [.ref aG, .ref aP, .ref aH, .ref aY, .ref aT, .ref aS, .ref aF, .ref aX, .int (iI pr), .int (iI tk), .int (iI tol), .int (iI hou)])), (aY, .inr (10, [.ref aYh, .ref aYt, .ref aYc])), (aYh, .inl (gI g, 3, .inl (ar ht))), (aYt, .inl (gI g, 36, .inl (ar yt)))]) (fun (u : Unit) => ([(aR, .inr (11, [.ref aG, .ref aP, .ref aH, .ref aY, .ref aT, .ref aS, .ref aF, .ref aX, .int (iI pr), .int (iI tk), .int (iI tol), .int (iI hou)])), (aY, .inr (10, [.ref aYh, .ref aYt, .ref aYc])), (aYh, .inl (gI g, 3, .inl (ar ht))), (aYt, .inl (gI g, 36, .inl (ar yt)))] : va_W)) rfl rfl (by decide) (fun _ => rfl) (fun _ => rfl) rfl (fun E ce q9 u H locs hXP hPX hP hD hS hcell hv9 hcl => ?_) (fun u H locs hv_1 hP hD hS => ?_)
    · skip
      have hP : va_P (gD g) vwCl [(aR, .inr (11, [.ref aG, .ref aP, .ref aH, .ref aY, .ref aT, .ref aS, .ref aF, .ref aX, .int (iI pr), .int (iI tk), .int (iI tol), .int (iI hou)])), (aY, .inr (10, [.ref aYh, .ref aYt, .ref aYc])), (aYh, .inl (gI g, 3, .inl (ar ht))), (aYt, .inl (gI g, 36, .inl (ar yt)))] H := hP
      have hD : va_D A [(aR, .inr (11, [.ref aG, .ref aP, .ref aH, .ref aY, .ref aT, .ref aS, .ref aF, .ref aX, .int (iI pr), .int (iI tk), .int (iI tol), .int (iI hou)])), (aY, .inr (10, [.ref aYh, .ref aYt, .ref aYc])), (aYh, .inl (gI g, 3, .inl (ar ht))), (aYt, .inl (gI g, 36, .inl (ar yt)))] := hD
      obtain ⟨hE, hp⟩ := hPX
      have hp : ¬ (0 ≤ sta ∧ sta ≤ 2) := hp
      subst hE
      rw [hQ9]
      exact x_out hout hlocks hP hD hS hcell hv9 hcl () trivial (Or.inl ⟨rfl, (by
          first
          | (
             unfold taT
             omega)
          | fail "q9")⟩) rfl (Nat.le_of_ble_eq_true rfl) (Nat.le_of_ble_eq_true rfl)
    · skip
      have hP : va_P (gD g) vwCl [(aR, .inr (11, [.ref aG, .ref aP, .ref aH, .ref aY, .ref aT, .ref aS, .ref aF, .ref aX, .int (iI pr), .int (iI tk), .int (iI tol), .int (iI hou)])), (aY, .inr (10, [.ref aYh, .ref aYt, .ref aYc])), (aYh, .inl (gI g, 3, .inl (ar ht))), (aYt, .inl (gI g, 36, .inl (ar yt)))] H := hP
      have hD : va_D A [(aR, .inr (11, [.ref aG, .ref aP, .ref aH, .ref aY, .ref aT, .ref aS, .ref aF, .ref aX, .int (iI pr), .int (iI tk), .int (iI tol), .int (iI hou)])), (aY, .inr (10, [.ref aYh, .ref aYt, .ref aYc])), (aYh, .inl (gI g, 3, .inl (ar ht))), (aYt, .inl (gI g, 36, .inl (ar yt)))] := hD
      obtain ⟨tv_1, pv_1⟩ := hv_1
      have tv_1 : 0 ≤ sta ∧ sta ≤ 2 := tv_1
      refine lv_iload_n hx hb dX8_taperAt_4 rfl (lv_at hl 2 rfl) ?_
      refine x_if_lt (tgt := 21) hx hb (by omega) dX8_taperAt_5 (by decide) (fun c_2 => ?_) (fun c_2 => ?_)
      · skip
        rw [hQ9]
        exact x_throwN hx hb hflags hown (by decide +kernel) (by decide +kernel) (hts (.classLink RX8 142 "java/util/NoSuchElementException") (List.mem_of_getElem? (i := 1) rfl)) (hts (.initialized "java/util/NoSuchElementException") (List.mem_of_getElem? (i := 2) rfl)) (hC.2.2.2.2.2.1 _ (List.mem_of_getElem? (i := 3) rfl)) (vx_hat (B := [.castable "java/util/NoSuchElementException" "java/util/NoSuchElementException", .declares (Bundle.initS "java/lang/RuntimeException"), .declares (Bundle.initS "java/lang/Exception"), .declares (Bundle.initS "java/lang/Throwable")]) (fun w h => hts w (List.mem_cons_of_mem _ (List.mem_append_left _ (List.mem_append_right _ h)))) (by decide +kernel) (vx_c (va_Nw.use rfl (hC.2.2.2.2.2.2.2.2.2.2.1 "java/util/NoSuchElementException" (List.mem_of_getElem? (i := 3) rfl))) (vx_c (va_Nw.use rfl (hC.2.2.2.2.2.2.2.2.2.2.2.1 "java/lang/RuntimeException" (List.mem_of_getElem? (i := 0) rfl))) (vx_c (va_Nw.use rfl (hC.2.2.2.2.2.2.2.2.2.2.2.1 "java/lang/Exception" (List.mem_of_getElem? (i := 1) rfl))) (vx_c (va_Nw.use rfl (hC.2.2.2.2.2.2.2.2.2.2.2.1 "java/lang/Throwable" (List.mem_of_getElem? (i := 2) rfl))) vx_n))))) (by decide +kernel) hC hP hD hS (hl.1.trans hml.symm) dX8_taperAt_21 dX8_taperAt_24 dX8_taperAt_25 dX8_taperAt_27 dX8_taperAt_30 hout (Nat.le_of_ble_eq_true rfl) (Nat.le_of_ble_eq_true rfl) (Nat.le_of_ble_eq_true rfl) (Nat.le_of_ble_eq_true rfl) hlocks () trivial (Or.inr ⟨rfl, (by
            first
            | (
               unfold taT
               omega)
            | fail "q9")⟩) rfl (Nat.le_of_ble_eq_true rfl) (Nat.le_of_ble_eq_true rfl)
      · skip
        refine lv_iload_n hx hb dX8_taperAt_8 rfl (lv_at hl 2 rfl) ?_
        refine lv_aload_n hx hb dX8_taperAt_9 rfl (lv_at hl 0 rfl) ?_
        refine va_get (D := gD g) (ci := 11) (v := .ref aY) (C := RX8) (T := TX8) (N := 12) hx hb hts hin8 hown hK hP 0 rfl rfl 3 (by decide) (hts (.fieldLink RX8 33 "TunnelRing" "yard" "LTunnelRing$Yard;") (List.mem_of_getElem? (i := 3) rfl)) (fun _ h9 => h9) rfl dX8_taperAt_10 ?_
        refine va_get (D := gD g) (ci := 10) (v := .ref aYh) (C := RX7) (T := TX7) (N := 3) hx hb hts hin7 hown hK hP 1 rfl rfl 0 (by decide) (hts (.fieldLink RX8 138 "TunnelRing$Yard" "height" "[I") (List.mem_of_getElem? (i := 4) rfl)) (fun _ h9 => h9) rfl dX8_taperAt_13 ?_
        refine lv_iload_n hx hb dX8_taperAt_16 rfl (lv_at hl 1 rfl) ?_
        refine x_iald hx hb hK hP 2 0 rfl rfl (by omega) (by omega) (Nat.le_of_ble_eq_true rfl) dX8_taperAt_17 (fun v_3 hv_3 => ?_)
        have bv_3 : 0 ≤ v_3 ∧ v_3 ≤ 12 := by rw [hv_3]; exact hb_ht _
        refine x_cmp_lt (tgt := 31) hx hb (by omega) (by omega) dX8_taperAt_18 (by decide) (fun c_4 => ?_) (fun c_4 => ?_)
        · skip
          refine lv_aload_n hx hb dX8_taperAt_31 rfl (lv_at hl 0 rfl) ?_
          refine va_get (D := gD g) (ci := 11) (v := .ref aY) (C := RX8) (T := TX8) (N := 12) hx hb hts hin8 hown hK hP 0 rfl rfl 3 (by decide) (hts (.fieldLink RX8 33 "TunnelRing" "yard" "LTunnelRing$Yard;") (List.mem_of_getElem? (i := 3) rfl)) (fun _ h9 => h9) rfl dX8_taperAt_32 ?_
          refine lv_iload_n hx hb dX8_taperAt_35 rfl (lv_at hl 1 rfl) ?_
          refine lv_iload_n hx hb dX8_taperAt_36 rfl (lv_at hl 2 rfl) ?_
          refine x_calli (S := Unit) (wc := [(aY, .inr (10, [.ref aYh, .ref aYt, .ref aYc])), (aYt, .inl (gI g, 36, .inl (ar yt)))]) (wr := [(aR, .inr (11, [.ref aG, .ref aP, .ref aH, .ref aY, .ref aT, .ref aS, .ref aF, .ref aX, .int (iI pr), .int (iI tk), .int (iI tol), .int (iI hou)])), (aYh, .inl (gI g, 3, .inl (ar ht)))]) hC hP hD hS hA [1, 3] [0, 2] [0, 2, 1, 3] rfl rfl (fun hpre => va_runV (As := [.int (iI sta), .int (iI pl)]) (rest := []) ⟨hx, hb, hml, hown, hts⟩ (c_X7_taperIn l g H.size aY aYh aYt aYc sta pl yt (by first | (first | assumption | omega | exact bnd_up (by assumption) (by omega) (by omega)) | fail "q8") (by first | (first | assumption | omega | exact bnd_up (by assumption) (by omega) (by omega)) | fail "q8")) (cwV 2 hts gX8_taperAt_X7_taperIn rfl rfl rfl (by decide +kernel) ⟨Nat.le_of_ble_eq_true rfl, Nat.le_of_ble_eq_true rfl⟩) ⟨xB_blind, va_recv hK hP (ci := 10) (q0 := 1) rfl rfl, hpre _⟩ rfl rfl hl.1 rfl (lv_room (Nat.le_of_ble_eq_true rfl)) dX8_taperAt_37 ⟨Nat.le_of_ble_eq_true rfl, Nat.le_of_ble_eq_true rfl⟩) (fun (u : Unit) => [(aR, .inr (11, [.ref aG, .ref aP, .ref aH, .ref aY, .ref aT, .ref aS, .ref aF, .ref aX, .int (iI pr), .int (iI tk), .int (iI tol), .int (iI hou)])), (aY, .inr (10, [.ref aYh, .ref aYt, .ref aYc])), (aYh, .inl (gI g, 3, .inl (ar ht))), (aYt, .inl (gI g, 36, .inl (ar yt)))]) rfl rfl (by decide) (fun _ => rfl) rfl (fun u v_5 H locs hv_5 pv_5 hP hD hS => ?_)
          have hP : va_P (gD g) vwCl [(aR, .inr (11, [.ref aG, .ref aP, .ref aH, .ref aY, .ref aT, .ref aS, .ref aF, .ref aX, .int (iI pr), .int (iI tk), .int (iI tol), .int (iI hou)])), (aY, .inr (10, [.ref aYh, .ref aYt, .ref aYc])), (aYh, .inl (gI g, 3, .inl (ar ht))), (aYt, .inl (gI g, 36, .inl (ar yt)))] H := hP
          have hD : va_D A [(aR, .inr (11, [.ref aG, .ref aP, .ref aH, .ref aY, .ref aT, .ref aS, .ref aF, .ref aX, .int (iI pr), .int (iI tk), .int (iI tol), .int (iI hou)])), (aY, .inr (10, [.ref aYh, .ref aYt, .ref aYc])), (aYh, .inl (gI g, 3, .inl (ar ht))), (aYt, .inl (gI g, 36, .inl (ar yt)))] := hD
          have hv_5 : v_5 = yt (sta * 12 + pl) := hv_5
          rw [hQ9]
          exact vx_ret (x_iret hx hb hr hlocks hP hD hS (S := Unit) rfl dX8_taperAt_40 () (by
              first
              | (
                 first | rfl | omega | (subst_vars; first | rfl | omega))
              | fail "q9") ⟨(by
              first
              | (
                 unfold taT
                 omega)
              | fail "q9"), trivial⟩ rfl (Nat.le_of_ble_eq_true rfl) (Nat.le_of_ble_eq_true rfl))
        · skip
          rw [hQ9]
          exact x_throwN hx hb hflags hown (by decide +kernel) (by decide +kernel) (hts (.classLink RX8 142 "java/util/NoSuchElementException") (List.mem_of_getElem? (i := 1) rfl)) (hts (.initialized "java/util/NoSuchElementException") (List.mem_of_getElem? (i := 2) rfl)) (hC.2.2.2.2.2.1 _ (List.mem_of_getElem? (i := 3) rfl)) (vx_hat (B := [.castable "java/util/NoSuchElementException" "java/util/NoSuchElementException", .declares (Bundle.initS "java/lang/RuntimeException"), .declares (Bundle.initS "java/lang/Exception"), .declares (Bundle.initS "java/lang/Throwable")]) (fun w h => hts w (List.mem_cons_of_mem _ (List.mem_append_left _ (List.mem_append_right _ h)))) (by decide +kernel) (vx_c (va_Nw.use rfl (hC.2.2.2.2.2.2.2.2.2.2.1 "java/util/NoSuchElementException" (List.mem_of_getElem? (i := 3) rfl))) (vx_c (va_Nw.use rfl (hC.2.2.2.2.2.2.2.2.2.2.2.1 "java/lang/RuntimeException" (List.mem_of_getElem? (i := 0) rfl))) (vx_c (va_Nw.use rfl (hC.2.2.2.2.2.2.2.2.2.2.2.1 "java/lang/Exception" (List.mem_of_getElem? (i := 1) rfl))) (vx_c (va_Nw.use rfl (hC.2.2.2.2.2.2.2.2.2.2.2.1 "java/lang/Throwable" (List.mem_of_getElem? (i := 2) rfl))) vx_n))))) (by decide +kernel) hC hP hD hS (hl.1.trans hml.symm) dX8_taperAt_21 dX8_taperAt_24 dX8_taperAt_25 dX8_taperAt_27 dX8_taperAt_30 hout (Nat.le_of_ble_eq_true rfl) (Nat.le_of_ble_eq_true rfl) (Nat.le_of_ble_eq_true rfl) (Nat.le_of_ble_eq_true rfl) hlocks () trivial (Or.inr ⟨rfl, (by
              first
              | (
                 unfold taT
                 omega)
              | fail "q9")⟩) rfl (Nat.le_of_ble_eq_true rfl) (Nat.le_of_ble_eq_true rfl)
  rw [hH, hlo, hQ9] at goal_
  exact goal_

set_option maxHeartbeats 4000000 in
set_option maxRecDepth 100000 in
theorem c_X8_hoursToCure (l : Launch) (hflags : l.stackTraces = false) (g : xg) (sz : Nat) (aR aG aP aH aY aT aS aF aX aYh aYt aYc : Nat) (pr tk tol hou sta : Int) (ht yc : Int → Int) (hb_ht : bnd ht 0 12) (hhou : 0 ≤ hou ∧ hou ≤ 5000) (hb_yc : bnd yc 0 5000) (hr_sta : iR sta) : vx_Met l yX8_hoursToCure wsX8_hoursToCure { frames := 7, cells := 2, slots := 12, locals := 114 } (va_Pc [.ref aR, .int (iI sta)] (xB g [(aR, .inr (11, [.ref aG, .ref aP, .ref aH, .ref aY, .ref aT, .ref aS, .ref aF, .ref aX, .int (iI pr), .int (iI tk), .int (iI tol), .int (iI hou)])), (aY, .inr (10, [.ref aYh, .ref aYt, .ref aYc])), (aYh, .inl (gI g, 3, .inl (ar ht))), (aYc, .inl (gI g, 36, .inl (ar yc)))] sz)) (va_Qi (fun r u => r = iI ((fun (u : Unit) => mx 0 (yc (sta * 12 + (ht sta - 1)) + 24 - hou)) u) ∧ (fun (u : Unit) => (emT ht sta = 0) ∧ (True)) u) (fun u t => xE g (va_A [(aR, .inr (11, [.ref aG, .ref aP, .ref aH, .ref aY, .ref aT, .ref aS, .ref aF, .ref aX, .int (iI pr), .int (iI tk), .int (iI tol), .int (iI hou)])), (aY, .inr (10, [.ref aYh, .ref aYt, .ref aYc])), (aYh, .inl (gI g, 3, .inl (ar ht))), (aYc, .inl (gI g, 36, .inl (ar yc)))] sz) ((fun (u : Unit) => [(aR, .inr (11, [.ref aG, .ref aP, .ref aH, .ref aY, .ref aT, .ref aS, .ref aF, .ref aX, .int (iI pr), .int (iI tk), .int (iI tol), .int (iI hou)])), (aY, .inr (10, [.ref aYh, .ref aYt, .ref aYc])), (aYh, .inl (gI g, 3, .inl (ar ht))), (aYc, .inl (gI g, 36, .inl (ar yc)))]) u) t) (va_A [(aR, .inr (11, [.ref aG, .ref aP, .ref aH, .ref aY, .ref aT, .ref aS, .ref aF, .ref aX, .int (iI pr), .int (iI tk), .int (iI tol), .int (iI hou)])), (aY, .inr (10, [.ref aYh, .ref aYt, .ref aYc])), (aYh, .inl (gI g, 3, .inl (ar ht))), (aYc, .inl (gI g, 36, .inl (ar yc)))] sz)) (xX g (va_A [(aR, .inr (11, [.ref aG, .ref aP, .ref aH, .ref aY, .ref aT, .ref aS, .ref aF, .ref aX, .int (iI pr), .int (iI tk), .int (iI tol), .int (iI hou)])), (aY, .inr (10, [.ref aYh, .ref aYt, .ref aYc])), (aYh, .inl (gI g, 3, .inl (ar ht))), (aYc, .inl (gI g, 36, .inl (ar yc)))] sz) (fun (u : Unit) => True) (fun E : String => (E = "java/lang/IndexOutOfBoundsException" ∧ (emT ht sta = 1)) ∨ (E = "java/util/NoSuchElementException" ∧ (emT ht sta = 2))) (fun (u : Unit) => ([(aR, .inr (11, [.ref aG, .ref aP, .ref aH, .ref aY, .ref aT, .ref aS, .ref aF, .ref aX, .int (iI pr), .int (iI tk), .int (iI tol), .int (iI hou)])), (aY, .inr (10, [.ref aYh, .ref aYt, .ref aYc])), (aYh, .inl (gI g, 3, .inl (ar ht))), (aYc, .inl (gI g, 36, .inl (ar yc)))] : va_W))) 2 12 (va_A [(aR, .inr (11, [.ref aG, .ref aP, .ref aH, .ref aY, .ref aT, .ref aS, .ref aF, .ref aX, .int (iI pr), .int (iI tk), .int (iI tol), .int (iI hou)])), (aY, .inr (10, [.ref aYh, .ref aYt, .ref aYc])), (aYh, .inl (gI g, 3, .inl (ar ht))), (aYc, .inl (gI g, 36, .inl (ar yc)))] sz) := by
  refine x_enterX (y := yX8_hoursToCure) (ws := wsX8_hoursToCure) (g := g) (sz := sz) (av := [.ref aR, .int (iI sta)]) (WS := [(aR, .inr (11, [.ref aG, .ref aP, .ref aH, .ref aY, .ref aT, .ref aS, .ref aF, .ref aX, .int (iI pr), .int (iI tk), .int (iI tol), .int (iI hou)])), (aY, .inr (10, [.ref aYh, .ref aYt, .ref aYc])), (aYh, .inl (gI g, 3, .inl (ar ht))), (aYc, .inl (gI g, 36, .inl (ar yc)))]) (cc := cX8_hoursToCure) (maxL := 2) (ret := some .int) (Qc := (fun A => (va_Qi (fun r u => r = iI ((fun (u : Unit) => mx 0 (yc (sta * 12 + (ht sta - 1)) + 24 - hou)) u) ∧ (fun (u : Unit) => (emT ht sta = 0) ∧ (True)) u) (fun u t => xE g A ((fun (u : Unit) => [(aR, .inr (11, [.ref aG, .ref aP, .ref aH, .ref aY, .ref aT, .ref aS, .ref aF, .ref aX, .int (iI pr), .int (iI tk), .int (iI tol), .int (iI hou)])), (aY, .inr (10, [.ref aYh, .ref aYt, .ref aYc])), (aYh, .inl (gI g, 3, .inl (ar ht))), (aYc, .inl (gI g, 36, .inl (ar yc)))]) u) t) A))) (XC := (fun A => (xX g A (fun (u : Unit) => True) (fun E : String => (E = "java/lang/IndexOutOfBoundsException" ∧ (emT ht sta = 1)) ∨ (E = "java/util/NoSuchElementException" ∧ (emT ht sta = 2))) (fun (u : Unit) => ([(aR, .inr (11, [.ref aG, .ref aP, .ref aH, .ref aY, .ref aT, .ref aS, .ref aF, .ref aX, .int (iI pr), .int (iI tk), .int (iI tol), .int (iI hou)])), (aY, .inr (10, [.ref aYh, .ref aYt, .ref aYc])), (aYh, .inl (gI g, 3, .inl (ar ht))), (aYc, .inl (gI g, 36, .inl (ar yc)))] : va_W))))) (by decide) rfl (Nat.le_of_ble_eq_true rfl) ?_
  intro p e s m args below meth c A ls hx hb hr hml hown hts hlocks hout hC hP hD hS hA hl
  have hK := hC.1
  have hown : s.vm.findClass RX8 = some m.cls := hown
  have hin7 : ∀ w ∈ u_ws RX7 TX7 3, w ∈ wsX8_hoursToCure := by decide +kernel
  have hin8 : ∀ w ∈ u_ws RX8 TX8 12, w ∈ wsX8_hoursToCure := by decide +kernel
  have hl : lv_has ls 2 [(0, .ref aR), (1, .int (iI sta))] := hl
  obtain ⟨H, hH⟩ : ∃ z, z = s.heap := ⟨_, rfl⟩
  obtain ⟨locs, hlo⟩ : ∃ z : List Loc, z = [] := ⟨_, rfl⟩
  obtain ⟨Q9, hQ9⟩ : ∃ z, z = vx_MQ below (va_Qi (fun r u => r = iI ((fun (u : Unit) => mx 0 (yc (sta * 12 + (ht sta - 1)) + 24 - hou)) u) ∧ (fun (u : Unit) => (emT ht sta = 0) ∧ (True)) u) (fun u t => xE g A ((fun (u : Unit) => [(aR, .inr (11, [.ref aG, .ref aP, .ref aH, .ref aY, .ref aT, .ref aS, .ref aF, .ref aX, .int (iI pr), .int (iI tk), .int (iI tol), .int (iI hou)])), (aY, .inr (10, [.ref aYh, .ref aYt, .ref aYc])), (aYh, .inl (gI g, 3, .inl (ar ht))), (aYc, .inl (gI g, 36, .inl (ar yc)))]) u) t) A) (xX g A (fun (u : Unit) => True) (fun E : String => (E = "java/lang/IndexOutOfBoundsException" ∧ (emT ht sta = 1)) ∨ (E = "java/util/NoSuchElementException" ∧ (emT ht sta = 2))) (fun (u : Unit) => ([(aR, .inr (11, [.ref aG, .ref aP, .ref aH, .ref aY, .ref aT, .ref aS, .ref aF, .ref aX, .int (iI pr), .int (iI tk), .int (iI tol), .int (iI hou)])), (aY, .inr (10, [.ref aYh, .ref aYt, .ref aYc])), (aYh, .inl (gI g, 3, .inl (ar ht))), (aYc, .inl (gI g, 36, .inl (ar yc)))] : va_W))) args s 2 12 A := ⟨_, rfl⟩
  have hP : va_P (gD g) vwCl [(aR, .inr (11, [.ref aG, .ref aP, .ref aH, .ref aY, .ref aT, .ref aS, .ref aF, .ref aX, .int (iI pr), .int (iI tk), .int (iI tol), .int (iI hou)])), (aY, .inr (10, [.ref aYh, .ref aYt, .ref aYc])), (aYh, .inl (gI g, 3, .inl (ar ht))), (aYc, .inl (gI g, 36, .inl (ar yc)))] H := by rw [hH]; exact hP
  have hS : va_S A s.heap H locs := by rw [hH, hlo]; exact hS
  have goal_ : W p l e { frames := 7, cells := 2, slots := 12, locals := 114 } s m args below meth c H locs 0 0 Q9 (F0 m 0 ls []) := by
    clear hH hlo
    refine lv_iload_n hx hb dX8_hoursToCure_0 rfl (lv_at hl 1 rfl) ?_
    refine x_callvX (S := Unit) (SX := Unit) (wc := []) (wr := [(aR, .inr (11, [.ref aG, .ref aP, .ref aH, .ref aY, .ref aT, .ref aS, .ref aF, .ref aX, .int (iI pr), .int (iI tk), .int (iI tol), .int (iI hou)])), (aY, .inr (10, [.ref aYh, .ref aYt, .ref aYc])), (aYh, .inl (gI g, 3, .inl (ar ht))), (aYc, .inl (gI g, 36, .inl (ar yc)))]) hC hP hD hS hA [] [0, 1, 2, 3] [0, 1, 2, 3] rfl rfl (fun hpre => vx_runS (As := [.int (iI sta)]) (rest := []) ⟨hx, hb, hml, hown, hts⟩ (c_X8_checkStack l hflags g H.size sta (by first | (first | assumption | omega | exact bnd_up (by assumption) (by omega) (by omega)) | fail "q8")) (va_cwS 1 hts gX8_hoursToCure_X8_checkStack rfl rfl rfl (by decide +kernel) ⟨Nat.le_of_ble_eq_true rfl, Nat.le_of_ble_eq_true rfl⟩) ⟨xB_blind, hpre _⟩ rfl rfl hl.1 rfl (lv_room (Nat.le_of_ble_eq_true rfl)) dX8_hoursToCure_1 ⟨Nat.le_of_ble_eq_true rfl, Nat.le_of_ble_eq_true rfl⟩) (fun (u : Unit) => [(aR, .inr (11, [.ref aG, .ref aP, .ref aH, .ref aY, .ref aT, .ref aS, .ref aF, .ref aX, .int (iI pr), .int (iI tk), .int (iI tol), .int (iI hou)])), (aY, .inr (10, [.ref aYh, .ref aYt, .ref aYc])), (aYh, .inl (gI g, 3, .inl (ar ht))), (aYc, .inl (gI g, 36, .inl (ar yc)))]) (fun (u : Unit) => ([(aR, .inr (11, [.ref aG, .ref aP, .ref aH, .ref aY, .ref aT, .ref aS, .ref aF, .ref aX, .int (iI pr), .int (iI tk), .int (iI tol), .int (iI hou)])), (aY, .inr (10, [.ref aYh, .ref aYt, .ref aYc])), (aYh, .inl (gI g, 3, .inl (ar ht))), (aYc, .inl (gI g, 36, .inl (ar yc)))] : va_W)) rfl rfl (by decide) (fun _ => rfl) (fun _ => rfl) rfl (fun E ce q9 u H locs hXP hPX hP hD hS hcell hv9 hcl => ?_) (fun u H locs hv_1 hP hD hS => ?_)
    · skip
      have hP : va_P (gD g) vwCl [(aR, .inr (11, [.ref aG, .ref aP, .ref aH, .ref aY, .ref aT, .ref aS, .ref aF, .ref aX, .int (iI pr), .int (iI tk), .int (iI tol), .int (iI hou)])), (aY, .inr (10, [.ref aYh, .ref aYt, .ref aYc])), (aYh, .inl (gI g, 3, .inl (ar ht))), (aYc, .inl (gI g, 36, .inl (ar yc)))] H := hP
      have hD : va_D A [(aR, .inr (11, [.ref aG, .ref aP, .ref aH, .ref aY, .ref aT, .ref aS, .ref aF, .ref aX, .int (iI pr), .int (iI tk), .int (iI tol), .int (iI hou)])), (aY, .inr (10, [.ref aYh, .ref aYt, .ref aYc])), (aYh, .inl (gI g, 3, .inl (ar ht))), (aYc, .inl (gI g, 36, .inl (ar yc)))] := hD
      obtain ⟨hE, hp⟩ := hPX
      have hp : ¬ (0 ≤ sta ∧ sta ≤ 2) := hp
      subst hE
      rw [hQ9]
      exact x_out hout hlocks hP hD hS hcell hv9 hcl () trivial (Or.inl ⟨rfl, (by
          first
          | (
             unfold emT
             have hbh := hb_ht sta
             omega)
          | fail "q9")⟩) rfl (Nat.le_of_ble_eq_true rfl) (Nat.le_of_ble_eq_true rfl)
    · skip
      have hP : va_P (gD g) vwCl [(aR, .inr (11, [.ref aG, .ref aP, .ref aH, .ref aY, .ref aT, .ref aS, .ref aF, .ref aX, .int (iI pr), .int (iI tk), .int (iI tol), .int (iI hou)])), (aY, .inr (10, [.ref aYh, .ref aYt, .ref aYc])), (aYh, .inl (gI g, 3, .inl (ar ht))), (aYc, .inl (gI g, 36, .inl (ar yc)))] H := hP
      have hD : va_D A [(aR, .inr (11, [.ref aG, .ref aP, .ref aH, .ref aY, .ref aT, .ref aS, .ref aF, .ref aX, .int (iI pr), .int (iI tk), .int (iI tol), .int (iI hou)])), (aY, .inr (10, [.ref aYh, .ref aYt, .ref aYc])), (aYh, .inl (gI g, 3, .inl (ar ht))), (aYc, .inl (gI g, 36, .inl (ar yc)))] := hD
      obtain ⟨tv_1, pv_1⟩ := hv_1
      have tv_1 : 0 ≤ sta ∧ sta ≤ 2 := tv_1
      refine lv_aload_n hx hb dX8_hoursToCure_4 rfl (lv_at hl 0 rfl) ?_
      refine lv_iload_n hx hb dX8_hoursToCure_5 rfl (lv_at hl 1 rfl) ?_
      refine x_iconst hx hb dX8_hoursToCure_6 ?_
      refine x_callvX (S := Unit) (SX := Unit) (wc := [(aR, .inr (11, [.ref aG, .ref aP, .ref aH, .ref aY, .ref aT, .ref aS, .ref aF, .ref aX, .int (iI pr), .int (iI tk), .int (iI tol), .int (iI hou)])), (aY, .inr (10, [.ref aYh, .ref aYt, .ref aYc])), (aYh, .inl (gI g, 3, .inl (ar ht)))]) (wr := [(aYc, .inl (gI g, 36, .inl (ar yc)))]) hC hP hD hS hA [0, 1, 2] [3] [1, 2, 3, 0] rfl rfl (fun hpre => vx_runV (As := [.int (iI sta), .int (iI 1)]) (rest := []) ⟨hx, hb, hml, hown, hts⟩ (c_X8_checkRings l hflags g H.size aR aG aP aH aY aT aS aF aX aYh aYt aYc pr tk tol hou sta 1 ht (by first | (first | assumption | omega | exact bnd_up (by assumption) (by omega) (by omega)) | fail "q8") (by first | (first | assumption | omega | exact bnd_up (by assumption) (by omega) (by omega)) | fail "q8") (by first | (first | assumption | omega | exact bnd_up (by assumption) (by omega) (by omega)) | fail "q8")) (cwV 2 hts gX8_hoursToCure_X8_checkRings rfl rfl rfl (by decide +kernel) ⟨Nat.le_of_ble_eq_true rfl, Nat.le_of_ble_eq_true rfl⟩) ⟨xB_blind, va_recv hK hP (ci := 11) (q0 := 0) rfl rfl, hpre _⟩ rfl rfl hl.1 rfl (lv_room (Nat.le_of_ble_eq_true rfl)) dX8_hoursToCure_7 ⟨Nat.le_of_ble_eq_true rfl, Nat.le_of_ble_eq_true rfl⟩) (fun (u : Unit) => [(aR, .inr (11, [.ref aG, .ref aP, .ref aH, .ref aY, .ref aT, .ref aS, .ref aF, .ref aX, .int (iI pr), .int (iI tk), .int (iI tol), .int (iI hou)])), (aY, .inr (10, [.ref aYh, .ref aYt, .ref aYc])), (aYh, .inl (gI g, 3, .inl (ar ht))), (aYc, .inl (gI g, 36, .inl (ar yc)))]) (fun (u : Unit) => ([(aR, .inr (11, [.ref aG, .ref aP, .ref aH, .ref aY, .ref aT, .ref aS, .ref aF, .ref aX, .int (iI pr), .int (iI tk), .int (iI tol), .int (iI hou)])), (aY, .inr (10, [.ref aYh, .ref aYt, .ref aYc])), (aYh, .inl (gI g, 3, .inl (ar ht))), (aYc, .inl (gI g, 36, .inl (ar yc)))] : va_W)) rfl rfl (by decide) (fun _ => rfl) (fun _ => rfl) rfl (fun E ce q9 u H locs hXP hPX hP hD hS hcell hv9 hcl => ?_) (fun u H locs hv_2 hP hD hS => ?_)
      · skip
        have hP : va_P (gD g) vwCl [(aR, .inr (11, [.ref aG, .ref aP, .ref aH, .ref aY, .ref aT, .ref aS, .ref aF, .ref aX, .int (iI pr), .int (iI tk), .int (iI tol), .int (iI hou)])), (aY, .inr (10, [.ref aYh, .ref aYt, .ref aYc])), (aYh, .inl (gI g, 3, .inl (ar ht))), (aYc, .inl (gI g, 36, .inl (ar yc)))] H := hP
        have hD : va_D A [(aR, .inr (11, [.ref aG, .ref aP, .ref aH, .ref aY, .ref aT, .ref aS, .ref aF, .ref aX, .int (iI pr), .int (iI tk), .int (iI tol), .int (iI hou)])), (aY, .inr (10, [.ref aYh, .ref aYt, .ref aYc])), (aYh, .inl (gI g, 3, .inl (ar ht))), (aYc, .inl (gI g, 36, .inl (ar yc)))] := hD
        obtain ⟨hE, hp⟩ := hPX
        have hp : ht sta < 1 := hp
        subst hE
        rw [hQ9]
        exact x_out hout hlocks hP hD hS hcell hv9 hcl () trivial (Or.inr ⟨rfl, (by
            first
            | (
               unfold emT
               have hbh := hb_ht sta
               omega)
            | fail "q9")⟩) rfl (Nat.le_of_ble_eq_true rfl) (Nat.le_of_ble_eq_true rfl)
      · skip
        have hP : va_P (gD g) vwCl [(aR, .inr (11, [.ref aG, .ref aP, .ref aH, .ref aY, .ref aT, .ref aS, .ref aF, .ref aX, .int (iI pr), .int (iI tk), .int (iI tol), .int (iI hou)])), (aY, .inr (10, [.ref aYh, .ref aYt, .ref aYc])), (aYh, .inl (gI g, 3, .inl (ar ht))), (aYc, .inl (gI g, 36, .inl (ar yc)))] H := hP
        have hD : va_D A [(aR, .inr (11, [.ref aG, .ref aP, .ref aH, .ref aY, .ref aT, .ref aS, .ref aF, .ref aX, .int (iI pr), .int (iI tk), .int (iI tol), .int (iI hou)])), (aY, .inr (10, [.ref aYh, .ref aYt, .ref aYc])), (aYh, .inl (gI g, 3, .inl (ar ht))), (aYc, .inl (gI g, 36, .inl (ar yc)))] := hD
        obtain ⟨tv_2, pv_2⟩ := hv_2
        have tv_2 : 1 ≤ ht sta := tv_2
        refine lv_aload_n hx hb dX8_hoursToCure_10 rfl (lv_at hl 0 rfl) ?_
        refine va_get (D := gD g) (ci := 11) (v := .ref aY) (C := RX8) (T := TX8) (N := 12) hx hb hts hin8 hown hK hP 0 rfl rfl 3 (by decide) (hts (.fieldLink RX8 33 "TunnelRing" "yard" "LTunnelRing$Yard;") (List.mem_of_getElem? (i := 1) rfl)) (fun _ h9 => h9) rfl dX8_hoursToCure_11 ?_
        refine lv_iload_n hx hb dX8_hoursToCure_14 rfl (lv_at hl 1 rfl) ?_
        refine lv_aload_n hx hb dX8_hoursToCure_15 rfl (lv_at hl 0 rfl) ?_
        refine va_get (D := gD g) (ci := 11) (v := .ref aY) (C := RX8) (T := TX8) (N := 12) hx hb hts hin8 hown hK hP 0 rfl rfl 3 (by decide) (hts (.fieldLink RX8 33 "TunnelRing" "yard" "LTunnelRing$Yard;") (List.mem_of_getElem? (i := 1) rfl)) (fun _ h9 => h9) rfl dX8_hoursToCure_16 ?_
        refine va_get (D := gD g) (ci := 10) (v := .ref aYh) (C := RX7) (T := TX7) (N := 3) hx hb hts hin7 hown hK hP 1 rfl rfl 0 (by decide) (hts (.fieldLink RX8 138 "TunnelRing$Yard" "height" "[I") (List.mem_of_getElem? (i := 2) rfl)) (fun _ h9 => h9) rfl dX8_hoursToCure_19 ?_
        refine lv_iload_n hx hb dX8_hoursToCure_22 rfl (lv_at hl 1 rfl) ?_
        refine x_iald hx hb hK hP 2 0 rfl rfl (by omega) (by omega) (Nat.le_of_ble_eq_true rfl) dX8_hoursToCure_23 (fun v_3 hv_3 => ?_)
        have bv_3 : 0 ≤ v_3 ∧ v_3 ≤ 12 := by rw [hv_3]; exact hb_ht _
        refine x_iconst hx hb dX8_hoursToCure_24 ?_
        refine x_isub hx hb dX8_hoursToCure_25 ?_
        refine lv_aload_n hx hb dX8_hoursToCure_26 rfl (lv_at hl 0 rfl) ?_
        refine va_get (D := gD g) (ci := 11) (v := .int (iI hou)) (C := RX8) (T := TX8) (N := 12) hx hb hts hin8 hown hK hP 0 rfl rfl 11 (by decide) (hts (.fieldLink RX8 75 "TunnelRing" "hour" "I") (List.mem_of_getElem? (i := 3) rfl)) (fun _ h9 => h9) rfl dX8_hoursToCure_27 ?_
        refine x_calli (S := Unit) (wc := [(aY, .inr (10, [.ref aYh, .ref aYt, .ref aYc])), (aYc, .inl (gI g, 36, .inl (ar yc)))]) (wr := [(aR, .inr (11, [.ref aG, .ref aP, .ref aH, .ref aY, .ref aT, .ref aS, .ref aF, .ref aX, .int (iI pr), .int (iI tk), .int (iI tol), .int (iI hou)])), (aYh, .inl (gI g, 3, .inl (ar ht)))]) hC hP hD hS hA [1, 3] [0, 2] [0, 2, 1, 3] rfl rfl (fun hpre => va_runV (As := [.int (iI sta), .int (iI (v_3 - 1)), .int (iI hou)]) (rest := []) ⟨hx, hb, hml, hown, hts⟩ (c_X7_hoursLeft l g H.size aY aYh aYt aYc sta (v_3 - 1) hou yc (by first | (first | assumption | omega | exact bnd_up (by assumption) (by omega) (by omega)) | fail "q8") (by first | (first | assumption | omega | exact bnd_up (by assumption) (by omega) (by omega)) | fail "q8") (by first | (first | assumption | omega | exact bnd_up (by assumption) (by omega) (by omega)) | fail "q8") (by first | (first | assumption | omega | exact bnd_up (by assumption) (by omega) (by omega)) | fail "q8")) (cwV 3 hts gX8_hoursToCure_X7_hoursLeft rfl rfl rfl (by decide +kernel) ⟨Nat.le_of_ble_eq_true rfl, Nat.le_of_ble_eq_true rfl⟩) ⟨xB_blind, va_recv hK hP (ci := 10) (q0 := 1) rfl rfl, hpre _⟩ rfl rfl hl.1 rfl (lv_room (Nat.le_of_ble_eq_true rfl)) dX8_hoursToCure_30 ⟨Nat.le_of_ble_eq_true rfl, Nat.le_of_ble_eq_true rfl⟩) (fun (u : Unit) => [(aR, .inr (11, [.ref aG, .ref aP, .ref aH, .ref aY, .ref aT, .ref aS, .ref aF, .ref aX, .int (iI pr), .int (iI tk), .int (iI tol), .int (iI hou)])), (aY, .inr (10, [.ref aYh, .ref aYt, .ref aYc])), (aYh, .inl (gI g, 3, .inl (ar ht))), (aYc, .inl (gI g, 36, .inl (ar yc)))]) rfl rfl (by decide) (fun _ => rfl) rfl (fun u v_4 H locs hv_4 pv_4 hP hD hS => ?_)
        have hP : va_P (gD g) vwCl [(aR, .inr (11, [.ref aG, .ref aP, .ref aH, .ref aY, .ref aT, .ref aS, .ref aF, .ref aX, .int (iI pr), .int (iI tk), .int (iI tol), .int (iI hou)])), (aY, .inr (10, [.ref aYh, .ref aYt, .ref aYc])), (aYh, .inl (gI g, 3, .inl (ar ht))), (aYc, .inl (gI g, 36, .inl (ar yc)))] H := hP
        have hD : va_D A [(aR, .inr (11, [.ref aG, .ref aP, .ref aH, .ref aY, .ref aT, .ref aS, .ref aF, .ref aX, .int (iI pr), .int (iI tk), .int (iI tol), .int (iI hou)])), (aY, .inr (10, [.ref aYh, .ref aYt, .ref aYc])), (aYh, .inl (gI g, 3, .inl (ar ht))), (aYc, .inl (gI g, 36, .inl (ar yc)))] := hD
        have hv_4 : v_4 = mx 0 (yc (sta * 12 + (v_3 - 1)) + 24 - hou) := hv_4
        have pv_4 : 0 ≤ v_4 ∧ v_4 ≤ 5024 := by first | exact pv_4 | (rw [hv_4]; exact pv_4)
        rw [hQ9]
        exact vx_ret (x_iret hx hb hr hlocks hP hD hS (S := Unit) rfl dX8_hoursToCure_33 () (by
            first
            | (
               first | rfl | omega | (subst_vars; first | rfl | omega))
            | fail "q9") ⟨(by
            first
            | (
               unfold emT
               have hbh := hb_ht sta
               omega)
            | fail "q9"), trivial⟩ rfl (Nat.le_of_ble_eq_true rfl) (Nat.le_of_ble_eq_true rfl))
  rw [hH, hlo, hQ9] at goal_
  exact goal_

set_option maxHeartbeats 4000000 in
set_option maxRecDepth 100000 in
theorem c_X8_restack (l : Launch) (hflags : l.stackTraces = false) (g : xg) (sz : Nat) (aR aG aP aH aY aT aS aF aX aYh aYt aYc : Nat) (pr tk tol hou sta stb : Int) (ht yt yc : Int → Int) (hb_ht : bnd ht 0 12) (hr_sta : iR sta) (hr_stb : iR stb) : vx_Met l yX8_restack wsX8_restack { frames := 7, cells := 4, slots := 24, locals := 114 } (va_Pc [.ref aR, .int (iI sta), .int (iI stb)] (xB g [(aR, .inr (11, [.ref aG, .ref aP, .ref aH, .ref aY, .ref aT, .ref aS, .ref aF, .ref aX, .int (iI pr), .int (iI tk), .int (iI tol), .int (iI hou)])), (aY, .inr (10, [.ref aYh, .ref aYt, .ref aYc])), (aYh, .inl (gI g, 3, .inl (ar ht))), (aYt, .inl (gI g, 36, .inl (ar yt))), (aYc, .inl (gI g, 36, .inl (ar yc)))] sz)) (va_Qi (fun r u => r = iI ((fun (u : Unit) => rsH ht sta stb stb) u) ∧ (fun (u : Unit) => (reT ht sta stb = 0) ∧ (True)) u) (fun u t => xE g (va_A [(aR, .inr (11, [.ref aG, .ref aP, .ref aH, .ref aY, .ref aT, .ref aS, .ref aF, .ref aX, .int (iI pr), .int (iI tk), .int (iI tol), .int (iI hou)])), (aY, .inr (10, [.ref aYh, .ref aYt, .ref aYc])), (aYh, .inl (gI g, 3, .inl (ar ht))), (aYt, .inl (gI g, 36, .inl (ar yt))), (aYc, .inl (gI g, 36, .inl (ar yc)))] sz) ((fun (u : Unit) => [(aR, .inr (11, [.ref aG, .ref aP, .ref aH, .ref aY, .ref aT, .ref aS, .ref aF, .ref aX, .int (iI pr), .int (iI tk), .int (iI tol), .int (iI hou)])), (aY, .inr (10, [.ref aYh, .ref aYt, .ref aYc])), (aYh, .inl (gI g, 3, .inl (ar (rsH ht sta stb)))), (aYt, .inl (gI g, 36, .inl (ar (rsF ht yt sta stb)))), (aYc, .inl (gI g, 36, .inl (ar (rsF ht yc sta stb))))]) u) t) (va_A [(aR, .inr (11, [.ref aG, .ref aP, .ref aH, .ref aY, .ref aT, .ref aS, .ref aF, .ref aX, .int (iI pr), .int (iI tk), .int (iI tol), .int (iI hou)])), (aY, .inr (10, [.ref aYh, .ref aYt, .ref aYc])), (aYh, .inl (gI g, 3, .inl (ar ht))), (aYt, .inl (gI g, 36, .inl (ar yt))), (aYc, .inl (gI g, 36, .inl (ar yc)))] sz)) (xX g (va_A [(aR, .inr (11, [.ref aG, .ref aP, .ref aH, .ref aY, .ref aT, .ref aS, .ref aF, .ref aX, .int (iI pr), .int (iI tk), .int (iI tol), .int (iI hou)])), (aY, .inr (10, [.ref aYh, .ref aYt, .ref aYc])), (aYh, .inl (gI g, 3, .inl (ar ht))), (aYt, .inl (gI g, 36, .inl (ar yt))), (aYc, .inl (gI g, 36, .inl (ar yc)))] sz) (fun (u : Unit) => True) (fun E : String => (E = "java/lang/IndexOutOfBoundsException" ∧ (reT ht sta stb = 1)) ∨ (E = "java/util/NoSuchElementException" ∧ (reT ht sta stb = 2)) ∨ (E = "java/lang/IllegalStateException" ∧ (reT ht sta stb = 3))) (fun (u : Unit) => ([(aR, .inr (11, [.ref aG, .ref aP, .ref aH, .ref aY, .ref aT, .ref aS, .ref aF, .ref aX, .int (iI pr), .int (iI tk), .int (iI tol), .int (iI hou)])), (aY, .inr (10, [.ref aYh, .ref aYt, .ref aYc])), (aYh, .inl (gI g, 3, .inl (ar ht))), (aYt, .inl (gI g, 36, .inl (ar yt))), (aYc, .inl (gI g, 36, .inl (ar yc)))] : va_W))) 4 24 (va_A [(aR, .inr (11, [.ref aG, .ref aP, .ref aH, .ref aY, .ref aT, .ref aS, .ref aF, .ref aX, .int (iI pr), .int (iI tk), .int (iI tol), .int (iI hou)])), (aY, .inr (10, [.ref aYh, .ref aYt, .ref aYc])), (aYh, .inl (gI g, 3, .inl (ar ht))), (aYt, .inl (gI g, 36, .inl (ar yt))), (aYc, .inl (gI g, 36, .inl (ar yc)))] sz) := by
  refine x_enterX (y := yX8_restack) (ws := wsX8_restack) (g := g) (sz := sz) (av := [.ref aR, .int (iI sta), .int (iI stb)]) (WS := [(aR, .inr (11, [.ref aG, .ref aP, .ref aH, .ref aY, .ref aT, .ref aS, .ref aF, .ref aX, .int (iI pr), .int (iI tk), .int (iI tol), .int (iI hou)])), (aY, .inr (10, [.ref aYh, .ref aYt, .ref aYc])), (aYh, .inl (gI g, 3, .inl (ar ht))), (aYt, .inl (gI g, 36, .inl (ar yt))), (aYc, .inl (gI g, 36, .inl (ar yc)))]) (cc := cX8_restack) (maxL := 3) (ret := some .int) (Qc := (fun A => (va_Qi (fun r u => r = iI ((fun (u : Unit) => rsH ht sta stb stb) u) ∧ (fun (u : Unit) => (reT ht sta stb = 0) ∧ (True)) u) (fun u t => xE g A ((fun (u : Unit) => [(aR, .inr (11, [.ref aG, .ref aP, .ref aH, .ref aY, .ref aT, .ref aS, .ref aF, .ref aX, .int (iI pr), .int (iI tk), .int (iI tol), .int (iI hou)])), (aY, .inr (10, [.ref aYh, .ref aYt, .ref aYc])), (aYh, .inl (gI g, 3, .inl (ar (rsH ht sta stb)))), (aYt, .inl (gI g, 36, .inl (ar (rsF ht yt sta stb)))), (aYc, .inl (gI g, 36, .inl (ar (rsF ht yc sta stb))))]) u) t) A))) (XC := (fun A => (xX g A (fun (u : Unit) => True) (fun E : String => (E = "java/lang/IndexOutOfBoundsException" ∧ (reT ht sta stb = 1)) ∨ (E = "java/util/NoSuchElementException" ∧ (reT ht sta stb = 2)) ∨ (E = "java/lang/IllegalStateException" ∧ (reT ht sta stb = 3))) (fun (u : Unit) => ([(aR, .inr (11, [.ref aG, .ref aP, .ref aH, .ref aY, .ref aT, .ref aS, .ref aF, .ref aX, .int (iI pr), .int (iI tk), .int (iI tol), .int (iI hou)])), (aY, .inr (10, [.ref aYh, .ref aYt, .ref aYc])), (aYh, .inl (gI g, 3, .inl (ar ht))), (aYt, .inl (gI g, 36, .inl (ar yt))), (aYc, .inl (gI g, 36, .inl (ar yc)))] : va_W))))) (by decide) rfl (Nat.le_of_ble_eq_true rfl) ?_
  intro p e s m args below meth c A ls hx hb hr hml hown hts hlocks hout hC hP hD hS hA hl
  have hK := hC.1
  have hown : s.vm.findClass RX8 = some m.cls := hown
  have hin7 : ∀ w ∈ u_ws RX7 TX7 3, w ∈ wsX8_restack := by decide +kernel
  have hin8 : ∀ w ∈ u_ws RX8 TX8 12, w ∈ wsX8_restack := by decide +kernel
  have hl : lv_has ls 3 [(0, .ref aR), (1, .int (iI sta)), (2, .int (iI stb))] := hl
  obtain ⟨H, hH⟩ : ∃ z, z = s.heap := ⟨_, rfl⟩
  obtain ⟨locs, hlo⟩ : ∃ z : List Loc, z = [] := ⟨_, rfl⟩
  obtain ⟨Q9, hQ9⟩ : ∃ z, z = vx_MQ below (va_Qi (fun r u => r = iI ((fun (u : Unit) => rsH ht sta stb stb) u) ∧ (fun (u : Unit) => (reT ht sta stb = 0) ∧ (True)) u) (fun u t => xE g A ((fun (u : Unit) => [(aR, .inr (11, [.ref aG, .ref aP, .ref aH, .ref aY, .ref aT, .ref aS, .ref aF, .ref aX, .int (iI pr), .int (iI tk), .int (iI tol), .int (iI hou)])), (aY, .inr (10, [.ref aYh, .ref aYt, .ref aYc])), (aYh, .inl (gI g, 3, .inl (ar (rsH ht sta stb)))), (aYt, .inl (gI g, 36, .inl (ar (rsF ht yt sta stb)))), (aYc, .inl (gI g, 36, .inl (ar (rsF ht yc sta stb))))]) u) t) A) (xX g A (fun (u : Unit) => True) (fun E : String => (E = "java/lang/IndexOutOfBoundsException" ∧ (reT ht sta stb = 1)) ∨ (E = "java/util/NoSuchElementException" ∧ (reT ht sta stb = 2)) ∨ (E = "java/lang/IllegalStateException" ∧ (reT ht sta stb = 3))) (fun (u : Unit) => ([(aR, .inr (11, [.ref aG, .ref aP, .ref aH, .ref aY, .ref aT, .ref aS, .ref aF, .ref aX, .int (iI pr), .int (iI tk), .int (iI tol), .int (iI hou)])), (aY, .inr (10, [.ref aYh, .ref aYt, .ref aYc])), (aYh, .inl (gI g, 3, .inl (ar ht))), (aYt, .inl (gI g, 36, .inl (ar yt))), (aYc, .inl (gI g, 36, .inl (ar yc)))] : va_W))) args s 4 24 A := ⟨_, rfl⟩
  have hP : va_P (gD g) vwCl [(aR, .inr (11, [.ref aG, .ref aP, .ref aH, .ref aY, .ref aT, .ref aS, .ref aF, .ref aX, .int (iI pr), .int (iI tk), .int (iI tol), .int (iI hou)])), (aY, .inr (10, [.ref aYh, .ref aYt, .ref aYc])), (aYh, .inl (gI g, 3, .inl (ar ht))), (aYt, .inl (gI g, 36, .inl (ar yt))), (aYc, .inl (gI g, 36, .inl (ar yc)))] H := by rw [hH]; exact hP
  have hS : va_S A s.heap H locs := by rw [hH, hlo]; exact hS
  have goal_ : W p l e { frames := 7, cells := 4, slots := 24, locals := 114 } s m args below meth c H locs 0 0 Q9 (F0 m 0 ls []) := by
    clear hH hlo
    have hba := hb_ht sta
    have hbb := hb_ht stb
    refine lv_iload_n hx hb dX8_restack_0 rfl (lv_at hl 1 rfl) ?_
    refine x_callvX (S := Unit) (SX := Unit) (wc := []) (wr := [(aR, .inr (11, [.ref aG, .ref aP, .ref aH, .ref aY, .ref aT, .ref aS, .ref aF, .ref aX, .int (iI pr), .int (iI tk), .int (iI tol), .int (iI hou)])), (aY, .inr (10, [.ref aYh, .ref aYt, .ref aYc])), (aYh, .inl (gI g, 3, .inl (ar ht))), (aYt, .inl (gI g, 36, .inl (ar yt))), (aYc, .inl (gI g, 36, .inl (ar yc)))]) hC hP hD hS hA [] [0, 1, 2, 3, 4] [0, 1, 2, 3, 4] rfl rfl (fun hpre => vx_runS (As := [.int (iI sta)]) (rest := []) ⟨hx, hb, hml, hown, hts⟩ (c_X8_checkStack l hflags g H.size sta (by first | (first | assumption | omega | exact bnd_up (by assumption) (by omega) (by omega)) | fail "q8")) (va_cwS 1 hts gX8_restack_X8_checkStack rfl rfl rfl (by decide +kernel) ⟨Nat.le_of_ble_eq_true rfl, Nat.le_of_ble_eq_true rfl⟩) ⟨xB_blind, hpre _⟩ rfl rfl hl.1 rfl (lv_room (Nat.le_of_ble_eq_true rfl)) dX8_restack_1 ⟨Nat.le_of_ble_eq_true rfl, Nat.le_of_ble_eq_true rfl⟩) (fun (u : Unit) => [(aR, .inr (11, [.ref aG, .ref aP, .ref aH, .ref aY, .ref aT, .ref aS, .ref aF, .ref aX, .int (iI pr), .int (iI tk), .int (iI tol), .int (iI hou)])), (aY, .inr (10, [.ref aYh, .ref aYt, .ref aYc])), (aYh, .inl (gI g, 3, .inl (ar ht))), (aYt, .inl (gI g, 36, .inl (ar yt))), (aYc, .inl (gI g, 36, .inl (ar yc)))]) (fun (u : Unit) => ([(aR, .inr (11, [.ref aG, .ref aP, .ref aH, .ref aY, .ref aT, .ref aS, .ref aF, .ref aX, .int (iI pr), .int (iI tk), .int (iI tol), .int (iI hou)])), (aY, .inr (10, [.ref aYh, .ref aYt, .ref aYc])), (aYh, .inl (gI g, 3, .inl (ar ht))), (aYt, .inl (gI g, 36, .inl (ar yt))), (aYc, .inl (gI g, 36, .inl (ar yc)))] : va_W)) rfl rfl (by decide) (fun _ => rfl) (fun _ => rfl) rfl (fun E ce q9 u H locs hXP hPX hP hD hS hcell hv9 hcl => ?_) (fun u H locs hv_1 hP hD hS => ?_)
    · skip
      have hP : va_P (gD g) vwCl [(aR, .inr (11, [.ref aG, .ref aP, .ref aH, .ref aY, .ref aT, .ref aS, .ref aF, .ref aX, .int (iI pr), .int (iI tk), .int (iI tol), .int (iI hou)])), (aY, .inr (10, [.ref aYh, .ref aYt, .ref aYc])), (aYh, .inl (gI g, 3, .inl (ar ht))), (aYt, .inl (gI g, 36, .inl (ar yt))), (aYc, .inl (gI g, 36, .inl (ar yc)))] H := hP
      have hD : va_D A [(aR, .inr (11, [.ref aG, .ref aP, .ref aH, .ref aY, .ref aT, .ref aS, .ref aF, .ref aX, .int (iI pr), .int (iI tk), .int (iI tol), .int (iI hou)])), (aY, .inr (10, [.ref aYh, .ref aYt, .ref aYc])), (aYh, .inl (gI g, 3, .inl (ar ht))), (aYt, .inl (gI g, 36, .inl (ar yt))), (aYc, .inl (gI g, 36, .inl (ar yc)))] := hD
      obtain ⟨hE, hp⟩ := hPX
      have hp : ¬ (0 ≤ sta ∧ sta ≤ 2) := hp
      subst hE
      rw [hQ9]
      exact x_out hout hlocks hP hD hS hcell hv9 hcl () trivial (Or.inl ⟨rfl, (by
          first
          | (
             unfold reT
             omega)
          | fail "q9")⟩) rfl (Nat.le_of_ble_eq_true rfl) (Nat.le_of_ble_eq_true rfl)
    · skip
      have hP : va_P (gD g) vwCl [(aR, .inr (11, [.ref aG, .ref aP, .ref aH, .ref aY, .ref aT, .ref aS, .ref aF, .ref aX, .int (iI pr), .int (iI tk), .int (iI tol), .int (iI hou)])), (aY, .inr (10, [.ref aYh, .ref aYt, .ref aYc])), (aYh, .inl (gI g, 3, .inl (ar ht))), (aYt, .inl (gI g, 36, .inl (ar yt))), (aYc, .inl (gI g, 36, .inl (ar yc)))] H := hP
      have hD : va_D A [(aR, .inr (11, [.ref aG, .ref aP, .ref aH, .ref aY, .ref aT, .ref aS, .ref aF, .ref aX, .int (iI pr), .int (iI tk), .int (iI tol), .int (iI hou)])), (aY, .inr (10, [.ref aYh, .ref aYt, .ref aYc])), (aYh, .inl (gI g, 3, .inl (ar ht))), (aYt, .inl (gI g, 36, .inl (ar yt))), (aYc, .inl (gI g, 36, .inl (ar yc)))] := hD
      obtain ⟨tv_1, pv_1⟩ := hv_1
      have tv_1 : 0 ≤ sta ∧ sta ≤ 2 := tv_1
      refine lv_iload_n hx hb dX8_restack_4 rfl (lv_at hl 2 rfl) ?_
      refine x_callvX (S := Unit) (SX := Unit) (wc := []) (wr := [(aR, .inr (11, [.ref aG, .ref aP, .ref aH, .ref aY, .ref aT, .ref aS, .ref aF, .ref aX, .int (iI pr), .int (iI tk), .int (iI tol), .int (iI hou)])), (aY, .inr (10, [.ref aYh, .ref aYt, .ref aYc])), (aYh, .inl (gI g, 3, .inl (ar ht))), (aYt, .inl (gI g, 36, .inl (ar yt))), (aYc, .inl (gI g, 36, .inl (ar yc)))]) hC hP hD hS hA [] [0, 1, 2, 3, 4] [0, 1, 2, 3, 4] rfl rfl (fun hpre => vx_runS (As := [.int (iI stb)]) (rest := []) ⟨hx, hb, hml, hown, hts⟩ (c_X8_checkStack l hflags g H.size stb (by first | (first | assumption | omega | exact bnd_up (by assumption) (by omega) (by omega)) | fail "q8")) (va_cwS 1 hts gX8_restack_X8_checkStack rfl rfl rfl (by decide +kernel) ⟨Nat.le_of_ble_eq_true rfl, Nat.le_of_ble_eq_true rfl⟩) ⟨xB_blind, hpre _⟩ rfl rfl hl.1 rfl (lv_room (Nat.le_of_ble_eq_true rfl)) dX8_restack_5 ⟨Nat.le_of_ble_eq_true rfl, Nat.le_of_ble_eq_true rfl⟩) (fun (u : Unit) => [(aR, .inr (11, [.ref aG, .ref aP, .ref aH, .ref aY, .ref aT, .ref aS, .ref aF, .ref aX, .int (iI pr), .int (iI tk), .int (iI tol), .int (iI hou)])), (aY, .inr (10, [.ref aYh, .ref aYt, .ref aYc])), (aYh, .inl (gI g, 3, .inl (ar ht))), (aYt, .inl (gI g, 36, .inl (ar yt))), (aYc, .inl (gI g, 36, .inl (ar yc)))]) (fun (u : Unit) => ([(aR, .inr (11, [.ref aG, .ref aP, .ref aH, .ref aY, .ref aT, .ref aS, .ref aF, .ref aX, .int (iI pr), .int (iI tk), .int (iI tol), .int (iI hou)])), (aY, .inr (10, [.ref aYh, .ref aYt, .ref aYc])), (aYh, .inl (gI g, 3, .inl (ar ht))), (aYt, .inl (gI g, 36, .inl (ar yt))), (aYc, .inl (gI g, 36, .inl (ar yc)))] : va_W)) rfl rfl (by decide) (fun _ => rfl) (fun _ => rfl) rfl (fun E ce q9 u H locs hXP hPX hP hD hS hcell hv9 hcl => ?_) (fun u H locs hv_2 hP hD hS => ?_)
      · skip
        have hP : va_P (gD g) vwCl [(aR, .inr (11, [.ref aG, .ref aP, .ref aH, .ref aY, .ref aT, .ref aS, .ref aF, .ref aX, .int (iI pr), .int (iI tk), .int (iI tol), .int (iI hou)])), (aY, .inr (10, [.ref aYh, .ref aYt, .ref aYc])), (aYh, .inl (gI g, 3, .inl (ar ht))), (aYt, .inl (gI g, 36, .inl (ar yt))), (aYc, .inl (gI g, 36, .inl (ar yc)))] H := hP
        have hD : va_D A [(aR, .inr (11, [.ref aG, .ref aP, .ref aH, .ref aY, .ref aT, .ref aS, .ref aF, .ref aX, .int (iI pr), .int (iI tk), .int (iI tol), .int (iI hou)])), (aY, .inr (10, [.ref aYh, .ref aYt, .ref aYc])), (aYh, .inl (gI g, 3, .inl (ar ht))), (aYt, .inl (gI g, 36, .inl (ar yt))), (aYc, .inl (gI g, 36, .inl (ar yc)))] := hD
        obtain ⟨hE, hp⟩ := hPX
        have hp : ¬ (0 ≤ stb ∧ stb ≤ 2) := hp
        subst hE
        rw [hQ9]
        exact x_out hout hlocks hP hD hS hcell hv9 hcl () trivial (Or.inl ⟨rfl, (by
            first
            | (
               unfold reT
               omega)
            | fail "q9")⟩) rfl (Nat.le_of_ble_eq_true rfl) (Nat.le_of_ble_eq_true rfl)
      · skip
        have hP : va_P (gD g) vwCl [(aR, .inr (11, [.ref aG, .ref aP, .ref aH, .ref aY, .ref aT, .ref aS, .ref aF, .ref aX, .int (iI pr), .int (iI tk), .int (iI tol), .int (iI hou)])), (aY, .inr (10, [.ref aYh, .ref aYt, .ref aYc])), (aYh, .inl (gI g, 3, .inl (ar ht))), (aYt, .inl (gI g, 36, .inl (ar yt))), (aYc, .inl (gI g, 36, .inl (ar yc)))] H := hP
        have hD : va_D A [(aR, .inr (11, [.ref aG, .ref aP, .ref aH, .ref aY, .ref aT, .ref aS, .ref aF, .ref aX, .int (iI pr), .int (iI tk), .int (iI tol), .int (iI hou)])), (aY, .inr (10, [.ref aYh, .ref aYt, .ref aYc])), (aYh, .inl (gI g, 3, .inl (ar ht))), (aYt, .inl (gI g, 36, .inl (ar yt))), (aYc, .inl (gI g, 36, .inl (ar yc)))] := hD
        obtain ⟨tv_2, pv_2⟩ := hv_2
        have tv_2 : 0 ≤ stb ∧ stb ≤ 2 := tv_2
        refine lv_aload_n hx hb dX8_restack_8 rfl (lv_at hl 0 rfl) ?_
        refine lv_iload_n hx hb dX8_restack_9 rfl (lv_at hl 1 rfl) ?_
        refine x_iconst hx hb dX8_restack_10 ?_
        refine x_callvX (S := Unit) (SX := Unit) (wc := [(aR, .inr (11, [.ref aG, .ref aP, .ref aH, .ref aY, .ref aT, .ref aS, .ref aF, .ref aX, .int (iI pr), .int (iI tk), .int (iI tol), .int (iI hou)])), (aY, .inr (10, [.ref aYh, .ref aYt, .ref aYc])), (aYh, .inl (gI g, 3, .inl (ar ht)))]) (wr := [(aYt, .inl (gI g, 36, .inl (ar yt))), (aYc, .inl (gI g, 36, .inl (ar yc)))]) hC hP hD hS hA [0, 1, 2] [3, 4] [2, 3, 4, 0, 1] rfl rfl (fun hpre => vx_runV (As := [.int (iI sta), .int (iI 1)]) (rest := []) ⟨hx, hb, hml, hown, hts⟩ (c_X8_checkRings l hflags g H.size aR aG aP aH aY aT aS aF aX aYh aYt aYc pr tk tol hou sta 1 ht (by first | (first | assumption | omega | exact bnd_up (by assumption) (by omega) (by omega)) | fail "q8") (by first | (first | assumption | omega | exact bnd_up (by assumption) (by omega) (by omega)) | fail "q8") (by first | (first | assumption | omega | exact bnd_up (by assumption) (by omega) (by omega)) | fail "q8")) (cwV 2 hts gX8_restack_X8_checkRings rfl rfl rfl (by decide +kernel) ⟨Nat.le_of_ble_eq_true rfl, Nat.le_of_ble_eq_true rfl⟩) ⟨xB_blind, va_recv hK hP (ci := 11) (q0 := 0) rfl rfl, hpre _⟩ rfl rfl hl.1 rfl (lv_room (Nat.le_of_ble_eq_true rfl)) dX8_restack_11 ⟨Nat.le_of_ble_eq_true rfl, Nat.le_of_ble_eq_true rfl⟩) (fun (u : Unit) => [(aR, .inr (11, [.ref aG, .ref aP, .ref aH, .ref aY, .ref aT, .ref aS, .ref aF, .ref aX, .int (iI pr), .int (iI tk), .int (iI tol), .int (iI hou)])), (aY, .inr (10, [.ref aYh, .ref aYt, .ref aYc])), (aYh, .inl (gI g, 3, .inl (ar ht))), (aYt, .inl (gI g, 36, .inl (ar yt))), (aYc, .inl (gI g, 36, .inl (ar yc)))]) (fun (u : Unit) => ([(aR, .inr (11, [.ref aG, .ref aP, .ref aH, .ref aY, .ref aT, .ref aS, .ref aF, .ref aX, .int (iI pr), .int (iI tk), .int (iI tol), .int (iI hou)])), (aY, .inr (10, [.ref aYh, .ref aYt, .ref aYc])), (aYh, .inl (gI g, 3, .inl (ar ht))), (aYt, .inl (gI g, 36, .inl (ar yt))), (aYc, .inl (gI g, 36, .inl (ar yc)))] : va_W)) rfl rfl (by decide) (fun _ => rfl) (fun _ => rfl) rfl (fun E ce q9 u H locs hXP hPX hP hD hS hcell hv9 hcl => ?_) (fun u H locs hv_3 hP hD hS => ?_)
        · skip
          have hP : va_P (gD g) vwCl [(aR, .inr (11, [.ref aG, .ref aP, .ref aH, .ref aY, .ref aT, .ref aS, .ref aF, .ref aX, .int (iI pr), .int (iI tk), .int (iI tol), .int (iI hou)])), (aY, .inr (10, [.ref aYh, .ref aYt, .ref aYc])), (aYh, .inl (gI g, 3, .inl (ar ht))), (aYt, .inl (gI g, 36, .inl (ar yt))), (aYc, .inl (gI g, 36, .inl (ar yc)))] H := hP
          have hD : va_D A [(aR, .inr (11, [.ref aG, .ref aP, .ref aH, .ref aY, .ref aT, .ref aS, .ref aF, .ref aX, .int (iI pr), .int (iI tk), .int (iI tol), .int (iI hou)])), (aY, .inr (10, [.ref aYh, .ref aYt, .ref aYc])), (aYh, .inl (gI g, 3, .inl (ar ht))), (aYt, .inl (gI g, 36, .inl (ar yt))), (aYc, .inl (gI g, 36, .inl (ar yc)))] := hD
          obtain ⟨hE, hp⟩ := hPX
          have hp : ht sta < 1 := hp
          subst hE
          rw [hQ9]
          exact x_out hout hlocks hP hD hS hcell hv9 hcl () trivial (Or.inr (Or.inl ⟨rfl, (by
              first
              | (
                 unfold reT
                 omega)
              | fail "q9")⟩)) rfl (Nat.le_of_ble_eq_true rfl) (Nat.le_of_ble_eq_true rfl)
        · skip
          have hP : va_P (gD g) vwCl [(aR, .inr (11, [.ref aG, .ref aP, .ref aH, .ref aY, .ref aT, .ref aS, .ref aF, .ref aX, .int (iI pr), .int (iI tk), .int (iI tol), .int (iI hou)])), (aY, .inr (10, [.ref aYh, .ref aYt, .ref aYc])), (aYh, .inl (gI g, 3, .inl (ar ht))), (aYt, .inl (gI g, 36, .inl (ar yt))), (aYc, .inl (gI g, 36, .inl (ar yc)))] H := hP
          have hD : va_D A [(aR, .inr (11, [.ref aG, .ref aP, .ref aH, .ref aY, .ref aT, .ref aS, .ref aF, .ref aX, .int (iI pr), .int (iI tk), .int (iI tol), .int (iI hou)])), (aY, .inr (10, [.ref aYh, .ref aYt, .ref aYc])), (aYh, .inl (gI g, 3, .inl (ar ht))), (aYt, .inl (gI g, 36, .inl (ar yt))), (aYc, .inl (gI g, 36, .inl (ar yc)))] := hD
          obtain ⟨tv_3, pv_3⟩ := hv_3
          have tv_3 : 1 ≤ ht sta := tv_3
          refine lv_iload_n hx hb dX8_restack_14 rfl (lv_at hl 1 rfl) ?_
          refine lv_iload_n hx hb dX8_restack_15 rfl (lv_at hl 2 rfl) ?_
          refine x_cmp_eq (tgt := 49) hx hb (by omega) (by omega) dX8_restack_16 (by decide) (fun c_4 => ?_) (fun c_4 => ?_)
          · skip
            refine lv_aload_n hx hb dX8_restack_49 rfl (lv_at hl 0 rfl) ?_
            refine va_get (D := gD g) (ci := 11) (v := .ref aY) (C := RX8) (T := TX8) (N := 12) hx hb hts hin8 hown hK hP 0 rfl rfl 3 (by decide) (hts (.fieldLink RX8 33 "TunnelRing" "yard" "LTunnelRing$Yard;") (List.mem_of_getElem? (i := 3) rfl)) (fun _ h9 => h9) rfl dX8_restack_50 ?_
            refine va_get (D := gD g) (ci := 10) (v := .ref aYh) (C := RX7) (T := TX7) (N := 3) hx hb hts hin7 hown hK hP 1 rfl rfl 0 (by decide) (hts (.fieldLink RX8 138 "TunnelRing$Yard" "height" "[I") (List.mem_of_getElem? (i := 4) rfl)) (fun _ h9 => h9) rfl dX8_restack_53 ?_
            refine lv_iload_n hx hb dX8_restack_56 rfl (lv_at hl 2 rfl) ?_
            refine x_iald hx hb hK hP 2 0 rfl rfl (by omega) (by omega) (Nat.le_of_ble_eq_true rfl) dX8_restack_57 (fun v_5 hv_5 => ?_)
            have bv_5 : 0 ≤ v_5 ∧ v_5 ≤ 12 := by rw [hv_5]; exact hb_ht _
            have q_6 : (rsH ht sta stb) = ht := by
              first
              | (
                 first | (have hne : sta ≠ stb := (by omega); have hu3 : up ht sta (ht sta - 1) stb = ht stb := up_ne _ _ (fun h9 => hne h9.symm); subst_vars; (try unfold rsH); (try unfold rsF); (try rw [hu3]); first | done | rfl | exact up_eq _ _ _ | exact (up_eq _ _ _).symm) | (have he : sta = stb := (by omega); subst_vars; first | exact rsH_self ht _ | exact rsF_self _ _ _ | exact congrFun (rsH_self ht _).symm _ | exact congrFun (rsH_self ht _) _))
              | fail "q9"
            have q_7 : (rsF ht yt sta stb) = yt := by
              first
              | (
                 first | (have hne : sta ≠ stb := (by omega); have hu3 : up ht sta (ht sta - 1) stb = ht stb := up_ne _ _ (fun h9 => hne h9.symm); subst_vars; (try unfold rsH); (try unfold rsF); (try rw [hu3]); first | done | rfl | exact up_eq _ _ _ | exact (up_eq _ _ _).symm) | (have he : sta = stb := (by omega); subst_vars; first | exact rsH_self ht _ | exact rsF_self _ _ _ | exact congrFun (rsH_self ht _).symm _ | exact congrFun (rsH_self ht _) _))
              | fail "q9"
            have q_8 : (rsF ht yc sta stb) = yc := by
              first
              | (
                 first | (have hne : sta ≠ stb := (by omega); have hu3 : up ht sta (ht sta - 1) stb = ht stb := up_ne _ _ (fun h9 => hne h9.symm); subst_vars; (try unfold rsH); (try unfold rsF); (try rw [hu3]); first | done | rfl | exact up_eq _ _ _ | exact (up_eq _ _ _).symm) | (have he : sta = stb := (by omega); subst_vars; first | exact rsH_self ht _ | exact rsF_self _ _ _ | exact congrFun (rsH_self ht _).symm _ | exact congrFun (rsH_self ht _) _))
              | fail "q9"
            have hw_9 := (congr (congr (congrArg (fun (z0 : Int → Int) (z1 : Int → Int) (z2 : Int → Int) => ([(aR, .inr (11, [.ref aG, .ref aP, .ref aH, .ref aY, .ref aT, .ref aS, .ref aF, .ref aX, .int (iI pr), .int (iI tk), .int (iI tol), .int (iI hou)])), (aY, .inr (10, [.ref aYh, .ref aYt, .ref aYc])), (aYh, .inl (gI g, 3, .inl (ar z0))), (aYt, .inl (gI g, 36, .inl (ar z1))), (aYc, .inl (gI g, 36, .inl (ar z2)))] : va_W)) q_6.symm) q_7.symm) q_8.symm)
            rw [hQ9]
            exact vx_ret (x_iret hx hb hr hlocks hP hD hS (S := Unit) rfl dX8_restack_58 () (by
                first
                | (
                   first | (have hne : sta ≠ stb := (by omega); have hu3 : up ht sta (ht sta - 1) stb = ht stb := up_ne _ _ (fun h9 => hne h9.symm); subst_vars; (try unfold rsH); (try unfold rsF); (try rw [hu3]); first | done | rfl | exact up_eq _ _ _ | exact (up_eq _ _ _).symm) | (have he : sta = stb := (by omega); subst_vars; first | exact rsH_self ht _ | exact rsF_self _ _ _ | exact congrFun (rsH_self ht _).symm _ | exact congrFun (rsH_self ht _) _))
                | fail "q9") ⟨(by
                first
                | (
                   unfold reT
                   omega)
                | fail "q9"), trivial⟩ hw_9 (Nat.le_of_ble_eq_true rfl) (Nat.le_of_ble_eq_true rfl))
          · skip
            refine lv_aload_n hx hb dX8_restack_19 rfl (lv_at hl 0 rfl) ?_
            refine va_get (D := gD g) (ci := 11) (v := .ref aY) (C := RX8) (T := TX8) (N := 12) hx hb hts hin8 hown hK hP 0 rfl rfl 3 (by decide) (hts (.fieldLink RX8 33 "TunnelRing" "yard" "LTunnelRing$Yard;") (List.mem_of_getElem? (i := 3) rfl)) (fun _ h9 => h9) rfl dX8_restack_20 ?_
            refine lv_iload_n hx hb dX8_restack_23 rfl (lv_at hl 2 rfl) ?_
            refine x_calli (S := Unit) (wc := [(aY, .inr (10, [.ref aYh, .ref aYt, .ref aYc])), (aYh, .inl (gI g, 3, .inl (ar ht)))]) (wr := [(aR, .inr (11, [.ref aG, .ref aP, .ref aH, .ref aY, .ref aT, .ref aS, .ref aF, .ref aX, .int (iI pr), .int (iI tk), .int (iI tol), .int (iI hou)])), (aYt, .inl (gI g, 36, .inl (ar yt))), (aYc, .inl (gI g, 36, .inl (ar yc)))]) hC hP hD hS hA [1, 2] [0, 3, 4] [0, 3, 4, 1, 2] rfl rfl (fun hpre => va_runV (As := [.int (iI stb)]) (rest := []) ⟨hx, hb, hml, hown, hts⟩ (c_X7_isFull l g H.size aY aYh aYt aYc stb ht (by first | (first | assumption | omega | exact bnd_up (by assumption) (by omega) (by omega)) | fail "q8") (by first | (first | assumption | omega | exact bnd_up (by assumption) (by omega) (by omega)) | fail "q8")) (cwV 1 hts gX8_restack_X7_isFull rfl rfl rfl (by decide +kernel) ⟨Nat.le_of_ble_eq_true rfl, Nat.le_of_ble_eq_true rfl⟩) ⟨xB_blind, va_recv hK hP (ci := 10) (q0 := 1) rfl rfl, hpre _⟩ rfl rfl hl.1 rfl (lv_room (Nat.le_of_ble_eq_true rfl)) dX8_restack_24 ⟨Nat.le_of_ble_eq_true rfl, Nat.le_of_ble_eq_true rfl⟩) (fun (u : Unit) => [(aR, .inr (11, [.ref aG, .ref aP, .ref aH, .ref aY, .ref aT, .ref aS, .ref aF, .ref aX, .int (iI pr), .int (iI tk), .int (iI tol), .int (iI hou)])), (aY, .inr (10, [.ref aYh, .ref aYt, .ref aYc])), (aYh, .inl (gI g, 3, .inl (ar ht))), (aYt, .inl (gI g, 36, .inl (ar yt))), (aYc, .inl (gI g, 36, .inl (ar yc)))]) rfl rfl (by decide) (fun _ => rfl) rfl (fun u v_10 H locs hv_10 pv_10 hP hD hS => ?_)
            have hP : va_P (gD g) vwCl [(aR, .inr (11, [.ref aG, .ref aP, .ref aH, .ref aY, .ref aT, .ref aS, .ref aF, .ref aX, .int (iI pr), .int (iI tk), .int (iI tol), .int (iI hou)])), (aY, .inr (10, [.ref aYh, .ref aYt, .ref aYc])), (aYh, .inl (gI g, 3, .inl (ar ht))), (aYt, .inl (gI g, 36, .inl (ar yt))), (aYc, .inl (gI g, 36, .inl (ar yc)))] H := hP
            have hD : va_D A [(aR, .inr (11, [.ref aG, .ref aP, .ref aH, .ref aY, .ref aT, .ref aS, .ref aF, .ref aX, .int (iI pr), .int (iI tk), .int (iI tol), .int (iI hou)])), (aY, .inr (10, [.ref aYh, .ref aYt, .ref aYc])), (aYh, .inl (gI g, 3, .inl (ar ht))), (aYt, .inl (gI g, 36, .inl (ar yt))), (aYc, .inl (gI g, 36, .inl (ar yc)))] := hD
            have hv_10 : v_10 = bI (ht stb = 12) := hv_10
            refine x_top hv_10 ?_
            refine x_ifb_eq (tgt := 40) (P := ht stb = 12) hx hb dX8_restack_27 (by decide) (fun c_11 => ?_) (fun c_11 => ?_)
            · skip
              refine lv_aload_n hx hb dX8_restack_40 rfl (lv_at hl 0 rfl) ?_
              refine va_get (D := gD g) (ci := 11) (v := .ref aY) (C := RX8) (T := TX8) (N := 12) hx hb hts hin8 hown hK hP 0 rfl rfl 3 (by decide) (hts (.fieldLink RX8 33 "TunnelRing" "yard" "LTunnelRing$Yard;") (List.mem_of_getElem? (i := 3) rfl)) (fun _ h9 => h9) rfl dX8_restack_41 ?_
              refine lv_iload_n hx hb dX8_restack_44 rfl (lv_at hl 1 rfl) ?_
              refine lv_iload_n hx hb dX8_restack_45 rfl (lv_at hl 2 rfl) ?_
              refine x_callv (S := Unit) (wc := [(aY, .inr (10, [.ref aYh, .ref aYt, .ref aYc])), (aYh, .inl (gI g, 3, .inl (ar ht))), (aYt, .inl (gI g, 36, .inl (ar yt))), (aYc, .inl (gI g, 36, .inl (ar yc)))]) (wr := [(aR, .inr (11, [.ref aG, .ref aP, .ref aH, .ref aY, .ref aT, .ref aS, .ref aF, .ref aX, .int (iI pr), .int (iI tk), .int (iI tol), .int (iI hou)]))]) hC hP hD hS hA [1, 2, 3, 4] [0] [0, 1, 2, 3, 4] rfl rfl (fun hpre => va_runV (As := [.int (iI sta), .int (iI stb)]) (rest := []) ⟨hx, hb, hml, hown, hts⟩ (c_X7_move l g H.size aY aYh aYt aYc sta stb ht yt yc (by first | (first | assumption | omega | exact bnd_up (by assumption) (by omega) (by omega)) | fail "q8") (by first | (first | assumption | omega | exact bnd_up (by assumption) (by omega) (by omega)) | fail "q8") (by first | (first | assumption | omega | exact bnd_up (by assumption) (by omega) (by omega)) | fail "q8") (by first | (first | assumption | omega | exact bnd_up (by assumption) (by omega) (by omega)) | fail "q8") (by first | (first | assumption | omega | exact bnd_up (by assumption) (by omega) (by omega)) | fail "q8") (by first | (first | assumption | omega | exact bnd_up (by assumption) (by omega) (by omega)) | fail "q8")) (cwV 2 hts gX8_restack_X7_move rfl rfl rfl (by decide +kernel) ⟨Nat.le_of_ble_eq_true rfl, Nat.le_of_ble_eq_true rfl⟩) ⟨xB_blind, va_recv hK hP (ci := 10) (q0 := 1) rfl rfl, hpre _⟩ rfl rfl hl.1 rfl (lv_room (Nat.le_of_ble_eq_true rfl)) dX8_restack_46 ⟨Nat.le_of_ble_eq_true rfl, Nat.le_of_ble_eq_true rfl⟩) (fun (u : Unit) => [(aR, .inr (11, [.ref aG, .ref aP, .ref aH, .ref aY, .ref aT, .ref aS, .ref aF, .ref aX, .int (iI pr), .int (iI tk), .int (iI tol), .int (iI hou)])), (aY, .inr (10, [.ref aYh, .ref aYt, .ref aYc])), (aYh, .inl (gI g, 3, .inl (ar (up (up ht sta (ht sta - 1)) stb (ht stb + 1))))), (aYt, .inl (gI g, 36, .inl (ar (up yt (stb * 12 + ht stb) (yt (sta * 12 + ht sta - 1)))))), (aYc, .inl (gI g, 36, .inl (ar (up yc (stb * 12 + ht stb) (yc (sta * 12 + ht sta - 1))))))]) rfl rfl (by decide) (fun _ => rfl) rfl (fun u H locs hv_12 hP hD hS => ?_)
              have hP : va_P (gD g) vwCl [(aR, .inr (11, [.ref aG, .ref aP, .ref aH, .ref aY, .ref aT, .ref aS, .ref aF, .ref aX, .int (iI pr), .int (iI tk), .int (iI tol), .int (iI hou)])), (aY, .inr (10, [.ref aYh, .ref aYt, .ref aYc])), (aYh, .inl (gI g, 3, .inl (ar (up (up ht sta (ht sta - 1)) stb (ht stb + 1))))), (aYt, .inl (gI g, 36, .inl (ar (up yt (stb * 12 + ht stb) (yt (sta * 12 + ht sta - 1)))))), (aYc, .inl (gI g, 36, .inl (ar (up yc (stb * 12 + ht stb) (yc (sta * 12 + ht sta - 1))))))] H := hP
              have hD : va_D A [(aR, .inr (11, [.ref aG, .ref aP, .ref aH, .ref aY, .ref aT, .ref aS, .ref aF, .ref aX, .int (iI pr), .int (iI tk), .int (iI tol), .int (iI hou)])), (aY, .inr (10, [.ref aYh, .ref aYt, .ref aYc])), (aYh, .inl (gI g, 3, .inl (ar (up (up ht sta (ht sta - 1)) stb (ht stb + 1))))), (aYt, .inl (gI g, 36, .inl (ar (up yt (stb * 12 + ht stb) (yt (sta * 12 + ht sta - 1)))))), (aYc, .inl (gI g, 36, .inl (ar (up yc (stb * 12 + ht stb) (yc (sta * 12 + ht sta - 1))))))] := hD
              refine lv_aload_n hx hb dX8_restack_49 rfl (lv_at hl 0 rfl) ?_
              refine va_get (D := gD g) (ci := 11) (v := .ref aY) (C := RX8) (T := TX8) (N := 12) hx hb hts hin8 hown hK hP 0 rfl rfl 3 (by decide) (hts (.fieldLink RX8 33 "TunnelRing" "yard" "LTunnelRing$Yard;") (List.mem_of_getElem? (i := 3) rfl)) (fun _ h9 => h9) rfl dX8_restack_50 ?_
              refine va_get (D := gD g) (ci := 10) (v := .ref aYh) (C := RX7) (T := TX7) (N := 3) hx hb hts hin7 hown hK hP 1 rfl rfl 0 (by decide) (hts (.fieldLink RX8 138 "TunnelRing$Yard" "height" "[I") (List.mem_of_getElem? (i := 4) rfl)) (fun _ h9 => h9) rfl dX8_restack_53 ?_
              refine lv_iload_n hx hb dX8_restack_56 rfl (lv_at hl 2 rfl) ?_
              refine x_iald hx hb hK hP 2 0 rfl rfl (by omega) (by omega) (Nat.le_of_ble_eq_true rfl) dX8_restack_57 (fun v_13 hv_13 => ?_)
              have q_14 : (rsH ht sta stb) = (up (up ht sta (ht sta - 1)) stb (ht stb + 1)) := by
                first
                | (
                   first | (have hne : sta ≠ stb := (by omega); have hu3 : up ht sta (ht sta - 1) stb = ht stb := up_ne _ _ (fun h9 => hne h9.symm); subst_vars; (try unfold rsH); (try unfold rsF); (try rw [hu3]); first | done | rfl | exact up_eq _ _ _ | exact (up_eq _ _ _).symm) | (have he : sta = stb := (by omega); subst_vars; first | exact rsH_self ht _ | exact rsF_self _ _ _ | exact congrFun (rsH_self ht _).symm _ | exact congrFun (rsH_self ht _) _))
                | fail "q9"
              have q_15 : (rsF ht yt sta stb) = (up yt (stb * 12 + ht stb) (yt (sta * 12 + ht sta - 1))) := by
                first
                | (
                   first | (have hne : sta ≠ stb := (by omega); have hu3 : up ht sta (ht sta - 1) stb = ht stb := up_ne _ _ (fun h9 => hne h9.symm); subst_vars; (try unfold rsH); (try unfold rsF); (try rw [hu3]); first | done | rfl | exact up_eq _ _ _ | exact (up_eq _ _ _).symm) | (have he : sta = stb := (by omega); subst_vars; first | exact rsH_self ht _ | exact rsF_self _ _ _ | exact congrFun (rsH_self ht _).symm _ | exact congrFun (rsH_self ht _) _))
                | fail "q9"
              have q_16 : (rsF ht yc sta stb) = (up yc (stb * 12 + ht stb) (yc (sta * 12 + ht sta - 1))) := by
                first
                | (
                   first | (have hne : sta ≠ stb := (by omega); have hu3 : up ht sta (ht sta - 1) stb = ht stb := up_ne _ _ (fun h9 => hne h9.symm); subst_vars; (try unfold rsH); (try unfold rsF); (try rw [hu3]); first | done | rfl | exact up_eq _ _ _ | exact (up_eq _ _ _).symm) | (have he : sta = stb := (by omega); subst_vars; first | exact rsH_self ht _ | exact rsF_self _ _ _ | exact congrFun (rsH_self ht _).symm _ | exact congrFun (rsH_self ht _) _))
                | fail "q9"
              have hw_17 := (congr (congr (congrArg (fun (z0 : Int → Int) (z1 : Int → Int) (z2 : Int → Int) => ([(aR, .inr (11, [.ref aG, .ref aP, .ref aH, .ref aY, .ref aT, .ref aS, .ref aF, .ref aX, .int (iI pr), .int (iI tk), .int (iI tol), .int (iI hou)])), (aY, .inr (10, [.ref aYh, .ref aYt, .ref aYc])), (aYh, .inl (gI g, 3, .inl (ar z0))), (aYt, .inl (gI g, 36, .inl (ar z1))), (aYc, .inl (gI g, 36, .inl (ar z2)))] : va_W)) q_14.symm) q_15.symm) q_16.symm)
              rw [hQ9]
              exact vx_ret (x_iret hx hb hr hlocks hP hD hS (S := Unit) rfl dX8_restack_58 () (by
                  first
                  | (
                     first | (have hne : sta ≠ stb := (by omega); have hu3 : up ht sta (ht sta - 1) stb = ht stb := up_ne _ _ (fun h9 => hne h9.symm); subst_vars; (try unfold rsH); (try unfold rsF); (try rw [hu3]); first | done | rfl | exact up_eq _ _ _ | exact (up_eq _ _ _).symm) | (have he : sta = stb := (by omega); subst_vars; first | exact rsH_self ht _ | exact rsF_self _ _ _ | exact congrFun (rsH_self ht _).symm _ | exact congrFun (rsH_self ht _) _))
                  | fail "q9") ⟨(by
                  first
                  | (
                     unfold reT
                     omega)
                  | fail "q9"), trivial⟩ hw_17 (Nat.le_of_ble_eq_true rfl) (Nat.le_of_ble_eq_true rfl))
            · skip
              rw [hQ9]
              exact x_throwS hx hb hflags hown (by decide +kernel) (by decide +kernel) (hts (.classLink RX8 85 "java/lang/IllegalStateException") (List.mem_of_getElem? (i := 1) rfl)) (hts (.initialized "java/lang/IllegalStateException") (List.mem_of_getElem? (i := 2) rfl)) (hC.2.2.2.2.2.1 _ (List.mem_of_getElem? (i := 4) rfl)) (vx_hat (B := [.castable "java/lang/IllegalStateException" "java/lang/IllegalStateException", .declares (Bundle.initS "java/lang/RuntimeException"), .declares (Bundle.initS "java/lang/Exception"), .declares (Bundle.initS "java/lang/Throwable")]) (fun w h => hts w (List.mem_cons_of_mem _ (List.mem_append_left _ (List.mem_append_left _ (List.mem_append_left _ (List.mem_append_right _ h)))))) (by decide +kernel) (vx_c (va_Nw.use rfl (hC.2.2.2.2.2.2.2.2.2.2.1 "java/lang/IllegalStateException" (List.mem_of_getElem? (i := 1) rfl))) (vx_c (va_Nw.use rfl (hC.2.2.2.2.2.2.2.2.2.2.2.1 "java/lang/RuntimeException" (List.mem_of_getElem? (i := 0) rfl))) (vx_c (va_Nw.use rfl (hC.2.2.2.2.2.2.2.2.2.2.2.1 "java/lang/Exception" (List.mem_of_getElem? (i := 1) rfl))) (vx_c (va_Nw.use rfl (hC.2.2.2.2.2.2.2.2.2.2.2.1 "java/lang/Throwable" (List.mem_of_getElem? (i := 2) rfl))) vx_n))))) (by decide +kernel) hC hP hD hS (hl.1.trans hml.symm) dX8_restack_30 dX8_restack_33 dX8_restack_34 dX8_restack_36 dX8_restack_39 hout (Nat.le_of_ble_eq_true rfl) (Nat.le_of_ble_eq_true rfl) (Nat.le_of_ble_eq_true rfl) (Nat.le_of_ble_eq_true rfl) hlocks () trivial (Or.inr (Or.inr ⟨rfl, (by
                  first
                  | (
                     unfold reT
                     omega)
                  | fail "q9")⟩)) rfl (Nat.le_of_ble_eq_true rfl) (Nat.le_of_ble_eq_true rfl)
  rw [hH, hlo, hQ9] at goal_
  exact goal_

set_option maxHeartbeats 4000000 in
set_option maxRecDepth 100000 in
theorem c_X8_setPressure (l : Launch) (hflags : l.stackTraces = false) (g : xg) (sz : Nat) (aR aG aP aH aY aT aS aF aX : Nat) (pr tk tol hou pre : Int) (hpr : 0 ≤ pr ∧ pr ≤ 100) (hr_pre : iR pre) : vx_Met l yX8_setPressure wsX8_setPressure { frames := 7, cells := 1, slots := 6, locals := 114 } (va_Pc [.ref aR, .int (iI pre)] (xB g [(aR, .inr (11, [.ref aG, .ref aP, .ref aH, .ref aY, .ref aT, .ref aS, .ref aF, .ref aX, .int (iI pr), .int (iI tk), .int (iI tol), .int (iI hou)]))] sz)) (va_Qi (fun r u => r = iI ((fun (u : Unit) => pr) u) ∧ (fun (u : Unit) => (inT 0 100 pre = 0) ∧ (True)) u) (fun u t => xE g (va_A [(aR, .inr (11, [.ref aG, .ref aP, .ref aH, .ref aY, .ref aT, .ref aS, .ref aF, .ref aX, .int (iI pr), .int (iI tk), .int (iI tol), .int (iI hou)]))] sz) ((fun (u : Unit) => [(aR, .inr (11, [.ref aG, .ref aP, .ref aH, .ref aY, .ref aT, .ref aS, .ref aF, .ref aX, .int (iI pre), .int (iI tk), .int (iI tol), .int (iI hou)]))]) u) t) (va_A [(aR, .inr (11, [.ref aG, .ref aP, .ref aH, .ref aY, .ref aT, .ref aS, .ref aF, .ref aX, .int (iI pr), .int (iI tk), .int (iI tol), .int (iI hou)]))] sz)) (xX g (va_A [(aR, .inr (11, [.ref aG, .ref aP, .ref aH, .ref aY, .ref aT, .ref aS, .ref aF, .ref aX, .int (iI pr), .int (iI tk), .int (iI tol), .int (iI hou)]))] sz) (fun (u : Unit) => True) (fun E : String => (E = "java/lang/IllegalArgumentException" ∧ (inT 0 100 pre = 1))) (fun (u : Unit) => ([(aR, .inr (11, [.ref aG, .ref aP, .ref aH, .ref aY, .ref aT, .ref aS, .ref aF, .ref aX, .int (iI pr), .int (iI tk), .int (iI tol), .int (iI hou)]))] : va_W))) 1 6 (va_A [(aR, .inr (11, [.ref aG, .ref aP, .ref aH, .ref aY, .ref aT, .ref aS, .ref aF, .ref aX, .int (iI pr), .int (iI tk), .int (iI tol), .int (iI hou)]))] sz) := by
  refine x_enterX (y := yX8_setPressure) (ws := wsX8_setPressure) (g := g) (sz := sz) (av := [.ref aR, .int (iI pre)]) (WS := [(aR, .inr (11, [.ref aG, .ref aP, .ref aH, .ref aY, .ref aT, .ref aS, .ref aF, .ref aX, .int (iI pr), .int (iI tk), .int (iI tol), .int (iI hou)]))]) (cc := cX8_setPressure) (maxL := 3) (ret := some .int) (Qc := (fun A => (va_Qi (fun r u => r = iI ((fun (u : Unit) => pr) u) ∧ (fun (u : Unit) => (inT 0 100 pre = 0) ∧ (True)) u) (fun u t => xE g A ((fun (u : Unit) => [(aR, .inr (11, [.ref aG, .ref aP, .ref aH, .ref aY, .ref aT, .ref aS, .ref aF, .ref aX, .int (iI pre), .int (iI tk), .int (iI tol), .int (iI hou)]))]) u) t) A))) (XC := (fun A => (xX g A (fun (u : Unit) => True) (fun E : String => (E = "java/lang/IllegalArgumentException" ∧ (inT 0 100 pre = 1))) (fun (u : Unit) => ([(aR, .inr (11, [.ref aG, .ref aP, .ref aH, .ref aY, .ref aT, .ref aS, .ref aF, .ref aX, .int (iI pr), .int (iI tk), .int (iI tol), .int (iI hou)]))] : va_W))))) (by decide) rfl (Nat.le_of_ble_eq_true rfl) ?_
  intro p e s m args below meth c A ls hx hb hr hml hown hts hlocks hout hC hP hD hS hA hl
  have hK := hC.1
  have hown : s.vm.findClass RX8 = some m.cls := hown
  have hin8 : ∀ w ∈ u_ws RX8 TX8 12, w ∈ wsX8_setPressure := by decide +kernel
  have hl : lv_has ls 3 [(0, .ref aR), (1, .int (iI pre))] := hl
  obtain ⟨H, hH⟩ : ∃ z, z = s.heap := ⟨_, rfl⟩
  obtain ⟨locs, hlo⟩ : ∃ z : List Loc, z = [] := ⟨_, rfl⟩
  obtain ⟨Q9, hQ9⟩ : ∃ z, z = vx_MQ below (va_Qi (fun r u => r = iI ((fun (u : Unit) => pr) u) ∧ (fun (u : Unit) => (inT 0 100 pre = 0) ∧ (True)) u) (fun u t => xE g A ((fun (u : Unit) => [(aR, .inr (11, [.ref aG, .ref aP, .ref aH, .ref aY, .ref aT, .ref aS, .ref aF, .ref aX, .int (iI pre), .int (iI tk), .int (iI tol), .int (iI hou)]))]) u) t) A) (xX g A (fun (u : Unit) => True) (fun E : String => (E = "java/lang/IllegalArgumentException" ∧ (inT 0 100 pre = 1))) (fun (u : Unit) => ([(aR, .inr (11, [.ref aG, .ref aP, .ref aH, .ref aY, .ref aT, .ref aS, .ref aF, .ref aX, .int (iI pr), .int (iI tk), .int (iI tol), .int (iI hou)]))] : va_W))) args s 1 6 A := ⟨_, rfl⟩
  have hP : va_P (gD g) vwCl [(aR, .inr (11, [.ref aG, .ref aP, .ref aH, .ref aY, .ref aT, .ref aS, .ref aF, .ref aX, .int (iI pr), .int (iI tk), .int (iI tol), .int (iI hou)]))] H := by rw [hH]; exact hP
  have hS : va_S A s.heap H locs := by rw [hH, hlo]; exact hS
  have goal_ : W p l e { frames := 7, cells := 1, slots := 6, locals := 114 } s m args below meth c H locs 0 0 Q9 (F0 m 0 ls []) := by
    clear hH hlo
    refine lv_iload_n hx hb dX8_setPressure_0 rfl (lv_at hl 1 rfl) ?_
    refine x_iconst hx hb dX8_setPressure_1 ?_
    refine x_bipush hx hb dX8_setPressure_2 (by decide) ?_
    refine x_callvX (S := Unit) (SX := Unit) (wc := []) (wr := [(aR, .inr (11, [.ref aG, .ref aP, .ref aH, .ref aY, .ref aT, .ref aS, .ref aF, .ref aX, .int (iI pr), .int (iI tk), .int (iI tol), .int (iI hou)]))]) hC hP hD hS hA [] [0] [0] rfl rfl (fun hpre => vx_runS (As := [.int (iI pre), .int (iI 0), .int (iI 100)]) (rest := []) ⟨hx, hb, hml, hown, hts⟩ (c_X8_checkRange l hflags g H.size pre 0 100 (by first | (first | assumption | omega | exact bnd_up (by assumption) (by omega) (by omega)) | fail "q8") (by first | (first | assumption | omega | exact bnd_up (by assumption) (by omega) (by omega)) | fail "q8") (by first | (first | assumption | omega | exact bnd_up (by assumption) (by omega) (by omega)) | fail "q8")) (va_cwS 3 hts gX8_setPressure_X8_checkRange rfl rfl rfl (by decide +kernel) ⟨Nat.le_of_ble_eq_true rfl, Nat.le_of_ble_eq_true rfl⟩) ⟨xB_blind, hpre _⟩ rfl rfl hl.1 rfl (lv_room (Nat.le_of_ble_eq_true rfl)) dX8_setPressure_4 ⟨Nat.le_of_ble_eq_true rfl, Nat.le_of_ble_eq_true rfl⟩) (fun (u : Unit) => [(aR, .inr (11, [.ref aG, .ref aP, .ref aH, .ref aY, .ref aT, .ref aS, .ref aF, .ref aX, .int (iI pr), .int (iI tk), .int (iI tol), .int (iI hou)]))]) (fun (u : Unit) => ([(aR, .inr (11, [.ref aG, .ref aP, .ref aH, .ref aY, .ref aT, .ref aS, .ref aF, .ref aX, .int (iI pr), .int (iI tk), .int (iI tol), .int (iI hou)]))] : va_W)) rfl rfl (by decide) (fun _ => rfl) (fun _ => rfl) rfl (fun E ce q9 u H locs hXP hPX hP hD hS hcell hv9 hcl => ?_) (fun u H locs hv_1 hP hD hS => ?_)
    · skip
      have hP : va_P (gD g) vwCl [(aR, .inr (11, [.ref aG, .ref aP, .ref aH, .ref aY, .ref aT, .ref aS, .ref aF, .ref aX, .int (iI pr), .int (iI tk), .int (iI tol), .int (iI hou)]))] H := hP
      have hD : va_D A [(aR, .inr (11, [.ref aG, .ref aP, .ref aH, .ref aY, .ref aT, .ref aS, .ref aF, .ref aX, .int (iI pr), .int (iI tk), .int (iI tol), .int (iI hou)]))] := hD
      obtain ⟨hE, hp⟩ := hPX
      have hp : ¬ (0 ≤ pre ∧ pre ≤ 100) := hp
      subst hE
      rw [hQ9]
      exact x_out hout hlocks hP hD hS hcell hv9 hcl () trivial ⟨rfl, (by
          first
          | (
             unfold inT
             omega)
          | fail "q9")⟩ rfl (Nat.le_of_ble_eq_true rfl) (Nat.le_of_ble_eq_true rfl)
    · skip
      have hP : va_P (gD g) vwCl [(aR, .inr (11, [.ref aG, .ref aP, .ref aH, .ref aY, .ref aT, .ref aS, .ref aF, .ref aX, .int (iI pr), .int (iI tk), .int (iI tol), .int (iI hou)]))] H := hP
      have hD : va_D A [(aR, .inr (11, [.ref aG, .ref aP, .ref aH, .ref aY, .ref aT, .ref aS, .ref aF, .ref aX, .int (iI pr), .int (iI tk), .int (iI tol), .int (iI hou)]))] := hD
      obtain ⟨tv_1, pv_1⟩ := hv_1
      have tv_1 : 0 ≤ pre ∧ pre ≤ 100 := tv_1
      refine lv_aload_n hx hb dX8_setPressure_7 rfl (lv_at hl 0 rfl) ?_
      refine va_get (D := gD g) (ci := 11) (v := .int (iI pr)) (C := RX8) (T := TX8) (N := 12) hx hb hts hin8 hown hK hP 0 rfl rfl 8 (by decide) (hts (.fieldLink RX8 65 "TunnelRing" "pressure" "I") (List.mem_of_getElem? (i := 1) rfl)) (fun _ h9 => h9) rfl dX8_setPressure_8 ?_
      refine lv_istore_n (lv' := [(2, .int (iI pr)), (0, .ref aR), (1, .int (iI pre))]) hx hb dX8_setPressure_11 rfl hl (by decide) rfl (fun ls hl => ?_)
      refine lv_aload_n hx hb dX8_setPressure_12 rfl (lv_at hl 1 rfl) ?_
      refine lv_iload_n hx hb dX8_setPressure_13 rfl (lv_at hl 2 rfl) ?_
      refine va_put (D := gD g) (ci := 11) (v := .int (iI pre)) (ty := tyX8 8) (C := RX8) (T := TX8) (N := 12) hx hb hts hin8 tyX8 tyX8_ok nmX8 hown hK hP hD hS 0 rfl rfl 8 (by decide) (hts (.fieldLink RX8 65 "TunnelRing" "pressure" "I") (List.mem_of_getElem? (i := 1) rfl)) (fun _ h9 => h9) rfl (tyX8_ok 8 (by decide)) rfl rfl (Nat.le_of_ble_eq_true rfl) dX8_setPressure_14 (fun H locs hP hD hS => ?_)
      have hP : va_P (gD g) vwCl [(aR, .inr (11, [.ref aG, .ref aP, .ref aH, .ref aY, .ref aT, .ref aS, .ref aF, .ref aX, .int (iI pre), .int (iI tk), .int (iI tol), .int (iI hou)]))] H := hP
      have hD : va_D A [(aR, .inr (11, [.ref aG, .ref aP, .ref aH, .ref aY, .ref aT, .ref aS, .ref aF, .ref aX, .int (iI pre), .int (iI tk), .int (iI tol), .int (iI hou)]))] := hD
      refine lv_iload_n hx hb dX8_setPressure_17 rfl (lv_at hl 0 rfl) ?_
      rw [hQ9]
      exact vx_ret (x_iret hx hb hr hlocks hP hD hS (S := Unit) rfl dX8_setPressure_18 () rfl ⟨(by
          first
          | (
             unfold inT
             omega)
          | fail "q9"), trivial⟩ rfl (Nat.le_of_ble_eq_true rfl) (Nat.le_of_ble_eq_true rfl))
  rw [hH, hlo, hQ9] at goal_
  exact goal_

set_option maxHeartbeats 4000000 in
set_option maxRecDepth 100000 in
theorem c_X8_setTolerance (l : Launch) (hflags : l.stackTraces = false) (g : xg) (sz : Nat) (aR aG aP aH aY aT aS aF aX : Nat) (pr tk tol hou nto : Int) (htol : 0 ≤ tol ∧ tol ≤ 9999) (hr_nto : iR nto) : vx_Met l yX8_setTolerance wsX8_setTolerance { frames := 7, cells := 1, slots := 6, locals := 114 } (va_Pc [.ref aR, .int (iI nto)] (xB g [(aR, .inr (11, [.ref aG, .ref aP, .ref aH, .ref aY, .ref aT, .ref aS, .ref aF, .ref aX, .int (iI pr), .int (iI tk), .int (iI tol), .int (iI hou)]))] sz)) (va_Qi (fun r u => r = iI ((fun (u : Unit) => tol) u) ∧ (fun (u : Unit) => (inT 0 9999 nto = 0) ∧ (True)) u) (fun u t => xE g (va_A [(aR, .inr (11, [.ref aG, .ref aP, .ref aH, .ref aY, .ref aT, .ref aS, .ref aF, .ref aX, .int (iI pr), .int (iI tk), .int (iI tol), .int (iI hou)]))] sz) ((fun (u : Unit) => [(aR, .inr (11, [.ref aG, .ref aP, .ref aH, .ref aY, .ref aT, .ref aS, .ref aF, .ref aX, .int (iI pr), .int (iI tk), .int (iI nto), .int (iI hou)]))]) u) t) (va_A [(aR, .inr (11, [.ref aG, .ref aP, .ref aH, .ref aY, .ref aT, .ref aS, .ref aF, .ref aX, .int (iI pr), .int (iI tk), .int (iI tol), .int (iI hou)]))] sz)) (xX g (va_A [(aR, .inr (11, [.ref aG, .ref aP, .ref aH, .ref aY, .ref aT, .ref aS, .ref aF, .ref aX, .int (iI pr), .int (iI tk), .int (iI tol), .int (iI hou)]))] sz) (fun (u : Unit) => True) (fun E : String => (E = "java/lang/IllegalArgumentException" ∧ (inT 0 9999 nto = 1))) (fun (u : Unit) => ([(aR, .inr (11, [.ref aG, .ref aP, .ref aH, .ref aY, .ref aT, .ref aS, .ref aF, .ref aX, .int (iI pr), .int (iI tk), .int (iI tol), .int (iI hou)]))] : va_W))) 1 6 (va_A [(aR, .inr (11, [.ref aG, .ref aP, .ref aH, .ref aY, .ref aT, .ref aS, .ref aF, .ref aX, .int (iI pr), .int (iI tk), .int (iI tol), .int (iI hou)]))] sz) := by
  refine x_enterX (y := yX8_setTolerance) (ws := wsX8_setTolerance) (g := g) (sz := sz) (av := [.ref aR, .int (iI nto)]) (WS := [(aR, .inr (11, [.ref aG, .ref aP, .ref aH, .ref aY, .ref aT, .ref aS, .ref aF, .ref aX, .int (iI pr), .int (iI tk), .int (iI tol), .int (iI hou)]))]) (cc := cX8_setTolerance) (maxL := 3) (ret := some .int) (Qc := (fun A => (va_Qi (fun r u => r = iI ((fun (u : Unit) => tol) u) ∧ (fun (u : Unit) => (inT 0 9999 nto = 0) ∧ (True)) u) (fun u t => xE g A ((fun (u : Unit) => [(aR, .inr (11, [.ref aG, .ref aP, .ref aH, .ref aY, .ref aT, .ref aS, .ref aF, .ref aX, .int (iI pr), .int (iI tk), .int (iI nto), .int (iI hou)]))]) u) t) A))) (XC := (fun A => (xX g A (fun (u : Unit) => True) (fun E : String => (E = "java/lang/IllegalArgumentException" ∧ (inT 0 9999 nto = 1))) (fun (u : Unit) => ([(aR, .inr (11, [.ref aG, .ref aP, .ref aH, .ref aY, .ref aT, .ref aS, .ref aF, .ref aX, .int (iI pr), .int (iI tk), .int (iI tol), .int (iI hou)]))] : va_W))))) (by decide) rfl (Nat.le_of_ble_eq_true rfl) ?_
  intro p e s m args below meth c A ls hx hb hr hml hown hts hlocks hout hC hP hD hS hA hl
  have hK := hC.1
  have hown : s.vm.findClass RX8 = some m.cls := hown
  have hin8 : ∀ w ∈ u_ws RX8 TX8 12, w ∈ wsX8_setTolerance := by decide +kernel
  have hl : lv_has ls 3 [(0, .ref aR), (1, .int (iI nto))] := hl
  obtain ⟨H, hH⟩ : ∃ z, z = s.heap := ⟨_, rfl⟩
  obtain ⟨locs, hlo⟩ : ∃ z : List Loc, z = [] := ⟨_, rfl⟩
  obtain ⟨Q9, hQ9⟩ : ∃ z, z = vx_MQ below (va_Qi (fun r u => r = iI ((fun (u : Unit) => tol) u) ∧ (fun (u : Unit) => (inT 0 9999 nto = 0) ∧ (True)) u) (fun u t => xE g A ((fun (u : Unit) => [(aR, .inr (11, [.ref aG, .ref aP, .ref aH, .ref aY, .ref aT, .ref aS, .ref aF, .ref aX, .int (iI pr), .int (iI tk), .int (iI nto), .int (iI hou)]))]) u) t) A) (xX g A (fun (u : Unit) => True) (fun E : String => (E = "java/lang/IllegalArgumentException" ∧ (inT 0 9999 nto = 1))) (fun (u : Unit) => ([(aR, .inr (11, [.ref aG, .ref aP, .ref aH, .ref aY, .ref aT, .ref aS, .ref aF, .ref aX, .int (iI pr), .int (iI tk), .int (iI tol), .int (iI hou)]))] : va_W))) args s 1 6 A := ⟨_, rfl⟩
  have hP : va_P (gD g) vwCl [(aR, .inr (11, [.ref aG, .ref aP, .ref aH, .ref aY, .ref aT, .ref aS, .ref aF, .ref aX, .int (iI pr), .int (iI tk), .int (iI tol), .int (iI hou)]))] H := by rw [hH]; exact hP
  have hS : va_S A s.heap H locs := by rw [hH, hlo]; exact hS
  have goal_ : W p l e { frames := 7, cells := 1, slots := 6, locals := 114 } s m args below meth c H locs 0 0 Q9 (F0 m 0 ls []) := by
    clear hH hlo
    refine lv_iload_n hx hb dX8_setTolerance_0 rfl (lv_at hl 1 rfl) ?_
    refine x_iconst hx hb dX8_setTolerance_1 ?_
    refine x_sipush hx hb dX8_setTolerance_2 (by decide) ?_
    refine x_callvX (S := Unit) (SX := Unit) (wc := []) (wr := [(aR, .inr (11, [.ref aG, .ref aP, .ref aH, .ref aY, .ref aT, .ref aS, .ref aF, .ref aX, .int (iI pr), .int (iI tk), .int (iI tol), .int (iI hou)]))]) hC hP hD hS hA [] [0] [0] rfl rfl (fun hpre => vx_runS (As := [.int (iI nto), .int (iI 0), .int (iI 9999)]) (rest := []) ⟨hx, hb, hml, hown, hts⟩ (c_X8_checkRange l hflags g H.size nto 0 9999 (by first | (first | assumption | omega | exact bnd_up (by assumption) (by omega) (by omega)) | fail "q8") (by first | (first | assumption | omega | exact bnd_up (by assumption) (by omega) (by omega)) | fail "q8") (by first | (first | assumption | omega | exact bnd_up (by assumption) (by omega) (by omega)) | fail "q8")) (va_cwS 3 hts gX8_setTolerance_X8_checkRange rfl rfl rfl (by decide +kernel) ⟨Nat.le_of_ble_eq_true rfl, Nat.le_of_ble_eq_true rfl⟩) ⟨xB_blind, hpre _⟩ rfl rfl hl.1 rfl (lv_room (Nat.le_of_ble_eq_true rfl)) dX8_setTolerance_5 ⟨Nat.le_of_ble_eq_true rfl, Nat.le_of_ble_eq_true rfl⟩) (fun (u : Unit) => [(aR, .inr (11, [.ref aG, .ref aP, .ref aH, .ref aY, .ref aT, .ref aS, .ref aF, .ref aX, .int (iI pr), .int (iI tk), .int (iI tol), .int (iI hou)]))]) (fun (u : Unit) => ([(aR, .inr (11, [.ref aG, .ref aP, .ref aH, .ref aY, .ref aT, .ref aS, .ref aF, .ref aX, .int (iI pr), .int (iI tk), .int (iI tol), .int (iI hou)]))] : va_W)) rfl rfl (by decide) (fun _ => rfl) (fun _ => rfl) rfl (fun E ce q9 u H locs hXP hPX hP hD hS hcell hv9 hcl => ?_) (fun u H locs hv_1 hP hD hS => ?_)
    · skip
      have hP : va_P (gD g) vwCl [(aR, .inr (11, [.ref aG, .ref aP, .ref aH, .ref aY, .ref aT, .ref aS, .ref aF, .ref aX, .int (iI pr), .int (iI tk), .int (iI tol), .int (iI hou)]))] H := hP
      have hD : va_D A [(aR, .inr (11, [.ref aG, .ref aP, .ref aH, .ref aY, .ref aT, .ref aS, .ref aF, .ref aX, .int (iI pr), .int (iI tk), .int (iI tol), .int (iI hou)]))] := hD
      obtain ⟨hE, hp⟩ := hPX
      have hp : ¬ (0 ≤ nto ∧ nto ≤ 9999) := hp
      subst hE
      rw [hQ9]
      exact x_out hout hlocks hP hD hS hcell hv9 hcl () trivial ⟨rfl, (by
          first
          | (
             unfold inT
             omega)
          | fail "q9")⟩ rfl (Nat.le_of_ble_eq_true rfl) (Nat.le_of_ble_eq_true rfl)
    · skip
      have hP : va_P (gD g) vwCl [(aR, .inr (11, [.ref aG, .ref aP, .ref aH, .ref aY, .ref aT, .ref aS, .ref aF, .ref aX, .int (iI pr), .int (iI tk), .int (iI tol), .int (iI hou)]))] H := hP
      have hD : va_D A [(aR, .inr (11, [.ref aG, .ref aP, .ref aH, .ref aY, .ref aT, .ref aS, .ref aF, .ref aX, .int (iI pr), .int (iI tk), .int (iI tol), .int (iI hou)]))] := hD
      obtain ⟨tv_1, pv_1⟩ := hv_1
      have tv_1 : 0 ≤ nto ∧ nto ≤ 9999 := tv_1
      refine lv_aload_n hx hb dX8_setTolerance_8 rfl (lv_at hl 0 rfl) ?_
      refine va_get (D := gD g) (ci := 11) (v := .int (iI tol)) (C := RX8) (T := TX8) (N := 12) hx hb hts hin8 hown hK hP 0 rfl rfl 10 (by decide) (hts (.fieldLink RX8 72 "TunnelRing" "tolerance" "I") (List.mem_of_getElem? (i := 1) rfl)) (fun _ h9 => h9) rfl dX8_setTolerance_9 ?_
      refine lv_istore_n (lv' := [(2, .int (iI tol)), (0, .ref aR), (1, .int (iI nto))]) hx hb dX8_setTolerance_12 rfl hl (by decide) rfl (fun ls hl => ?_)
      refine lv_aload_n hx hb dX8_setTolerance_13 rfl (lv_at hl 1 rfl) ?_
      refine lv_iload_n hx hb dX8_setTolerance_14 rfl (lv_at hl 2 rfl) ?_
      refine va_put (D := gD g) (ci := 11) (v := .int (iI nto)) (ty := tyX8 10) (C := RX8) (T := TX8) (N := 12) hx hb hts hin8 tyX8 tyX8_ok nmX8 hown hK hP hD hS 0 rfl rfl 10 (by decide) (hts (.fieldLink RX8 72 "TunnelRing" "tolerance" "I") (List.mem_of_getElem? (i := 1) rfl)) (fun _ h9 => h9) rfl (tyX8_ok 10 (by decide)) rfl rfl (Nat.le_of_ble_eq_true rfl) dX8_setTolerance_15 (fun H locs hP hD hS => ?_)
      have hP : va_P (gD g) vwCl [(aR, .inr (11, [.ref aG, .ref aP, .ref aH, .ref aY, .ref aT, .ref aS, .ref aF, .ref aX, .int (iI pr), .int (iI tk), .int (iI nto), .int (iI hou)]))] H := hP
      have hD : va_D A [(aR, .inr (11, [.ref aG, .ref aP, .ref aH, .ref aY, .ref aT, .ref aS, .ref aF, .ref aX, .int (iI pr), .int (iI tk), .int (iI nto), .int (iI hou)]))] := hD
      refine lv_iload_n hx hb dX8_setTolerance_18 rfl (lv_at hl 0 rfl) ?_
      rw [hQ9]
      exact vx_ret (x_iret hx hb hr hlocks hP hD hS (S := Unit) rfl dX8_setTolerance_19 () rfl ⟨(by
          first
          | (
             unfold inT
             omega)
          | fail "q9"), trivial⟩ rfl (Nat.le_of_ble_eq_true rfl) (Nat.le_of_ble_eq_true rfl))
  rw [hH, hlo, hQ9] at goal_
  exact goal_

set_option maxHeartbeats 4000000 in
set_option maxRecDepth 100000 in
theorem c_X8_addSlurry (l : Launch) (hflags : l.stackTraces = false) (g : xg) (sz : Nat) (aR aG aP aH aY aT aS aF aX : Nat) (pr tk tol hou vo : Int) (htk : 0 ≤ tk ∧ tk ≤ 1000) (hr_vo : iR vo) : vx_Met l yX8_addSlurry wsX8_addSlurry { frames := 7, cells := 2, slots := 12, locals := 114 } (va_Pc [.ref aR, .int (iI vo)] (xB g [(aR, .inr (11, [.ref aG, .ref aP, .ref aH, .ref aY, .ref aT, .ref aS, .ref aF, .ref aX, .int (iI pr), .int (iI tk), .int (iI tol), .int (iI hou)]))] sz)) (va_Qi (fun r u => r = iI ((fun (u : Unit) => tk + vo) u) ∧ (fun (u : Unit) => (slT tk vo = 0) ∧ (True)) u) (fun u t => xE g (va_A [(aR, .inr (11, [.ref aG, .ref aP, .ref aH, .ref aY, .ref aT, .ref aS, .ref aF, .ref aX, .int (iI pr), .int (iI tk), .int (iI tol), .int (iI hou)]))] sz) ((fun (u : Unit) => [(aR, .inr (11, [.ref aG, .ref aP, .ref aH, .ref aY, .ref aT, .ref aS, .ref aF, .ref aX, .int (iI pr), .int (iI (tk + vo)), .int (iI tol), .int (iI hou)]))]) u) t) (va_A [(aR, .inr (11, [.ref aG, .ref aP, .ref aH, .ref aY, .ref aT, .ref aS, .ref aF, .ref aX, .int (iI pr), .int (iI tk), .int (iI tol), .int (iI hou)]))] sz)) (xX g (va_A [(aR, .inr (11, [.ref aG, .ref aP, .ref aH, .ref aY, .ref aT, .ref aS, .ref aF, .ref aX, .int (iI pr), .int (iI tk), .int (iI tol), .int (iI hou)]))] sz) (fun (u : Unit) => True) (fun E : String => (E = "java/lang/IllegalArgumentException" ∧ (slT tk vo = 1)) ∨ (E = "java/lang/IllegalStateException" ∧ (slT tk vo = 2))) (fun (u : Unit) => ([(aR, .inr (11, [.ref aG, .ref aP, .ref aH, .ref aY, .ref aT, .ref aS, .ref aF, .ref aX, .int (iI pr), .int (iI tk), .int (iI tol), .int (iI hou)]))] : va_W))) 2 12 (va_A [(aR, .inr (11, [.ref aG, .ref aP, .ref aH, .ref aY, .ref aT, .ref aS, .ref aF, .ref aX, .int (iI pr), .int (iI tk), .int (iI tol), .int (iI hou)]))] sz) := by
  refine x_enterX (y := yX8_addSlurry) (ws := wsX8_addSlurry) (g := g) (sz := sz) (av := [.ref aR, .int (iI vo)]) (WS := [(aR, .inr (11, [.ref aG, .ref aP, .ref aH, .ref aY, .ref aT, .ref aS, .ref aF, .ref aX, .int (iI pr), .int (iI tk), .int (iI tol), .int (iI hou)]))]) (cc := cX8_addSlurry) (maxL := 2) (ret := some .int) (Qc := (fun A => (va_Qi (fun r u => r = iI ((fun (u : Unit) => tk + vo) u) ∧ (fun (u : Unit) => (slT tk vo = 0) ∧ (True)) u) (fun u t => xE g A ((fun (u : Unit) => [(aR, .inr (11, [.ref aG, .ref aP, .ref aH, .ref aY, .ref aT, .ref aS, .ref aF, .ref aX, .int (iI pr), .int (iI (tk + vo)), .int (iI tol), .int (iI hou)]))]) u) t) A))) (XC := (fun A => (xX g A (fun (u : Unit) => True) (fun E : String => (E = "java/lang/IllegalArgumentException" ∧ (slT tk vo = 1)) ∨ (E = "java/lang/IllegalStateException" ∧ (slT tk vo = 2))) (fun (u : Unit) => ([(aR, .inr (11, [.ref aG, .ref aP, .ref aH, .ref aY, .ref aT, .ref aS, .ref aF, .ref aX, .int (iI pr), .int (iI tk), .int (iI tol), .int (iI hou)]))] : va_W))))) (by decide) rfl (Nat.le_of_ble_eq_true rfl) ?_
  intro p e s m args below meth c A ls hx hb hr hml hown hts hlocks hout hC hP hD hS hA hl
  have hK := hC.1
  have hown : s.vm.findClass RX8 = some m.cls := hown
  have hin8 : ∀ w ∈ u_ws RX8 TX8 12, w ∈ wsX8_addSlurry := by decide +kernel
  have hl : lv_has ls 2 [(0, .ref aR), (1, .int (iI vo))] := hl
  obtain ⟨H, hH⟩ : ∃ z, z = s.heap := ⟨_, rfl⟩
  obtain ⟨locs, hlo⟩ : ∃ z : List Loc, z = [] := ⟨_, rfl⟩
  obtain ⟨Q9, hQ9⟩ : ∃ z, z = vx_MQ below (va_Qi (fun r u => r = iI ((fun (u : Unit) => tk + vo) u) ∧ (fun (u : Unit) => (slT tk vo = 0) ∧ (True)) u) (fun u t => xE g A ((fun (u : Unit) => [(aR, .inr (11, [.ref aG, .ref aP, .ref aH, .ref aY, .ref aT, .ref aS, .ref aF, .ref aX, .int (iI pr), .int (iI (tk + vo)), .int (iI tol), .int (iI hou)]))]) u) t) A) (xX g A (fun (u : Unit) => True) (fun E : String => (E = "java/lang/IllegalArgumentException" ∧ (slT tk vo = 1)) ∨ (E = "java/lang/IllegalStateException" ∧ (slT tk vo = 2))) (fun (u : Unit) => ([(aR, .inr (11, [.ref aG, .ref aP, .ref aH, .ref aY, .ref aT, .ref aS, .ref aF, .ref aX, .int (iI pr), .int (iI tk), .int (iI tol), .int (iI hou)]))] : va_W))) args s 2 12 A := ⟨_, rfl⟩
  have hP : va_P (gD g) vwCl [(aR, .inr (11, [.ref aG, .ref aP, .ref aH, .ref aY, .ref aT, .ref aS, .ref aF, .ref aX, .int (iI pr), .int (iI tk), .int (iI tol), .int (iI hou)]))] H := by rw [hH]; exact hP
  have hS : va_S A s.heap H locs := by rw [hH, hlo]; exact hS
  have goal_ : W p l e { frames := 7, cells := 2, slots := 12, locals := 114 } s m args below meth c H locs 0 0 Q9 (F0 m 0 ls []) := by
    clear hH hlo
    refine lv_iload_n hx hb dX8_addSlurry_0 rfl (lv_at hl 1 rfl) ?_
    refine x_iconst hx hb dX8_addSlurry_1 ?_
    refine x_sipush hx hb dX8_addSlurry_2 (by decide) ?_
    refine x_callvX (S := Unit) (SX := Unit) (wc := []) (wr := [(aR, .inr (11, [.ref aG, .ref aP, .ref aH, .ref aY, .ref aT, .ref aS, .ref aF, .ref aX, .int (iI pr), .int (iI tk), .int (iI tol), .int (iI hou)]))]) hC hP hD hS hA [] [0] [0] rfl rfl (fun hpre => vx_runS (As := [.int (iI vo), .int (iI 1), .int (iI 500)]) (rest := []) ⟨hx, hb, hml, hown, hts⟩ (c_X8_checkRange l hflags g H.size vo 1 500 (by first | (first | assumption | omega | exact bnd_up (by assumption) (by omega) (by omega)) | fail "q8") (by first | (first | assumption | omega | exact bnd_up (by assumption) (by omega) (by omega)) | fail "q8") (by first | (first | assumption | omega | exact bnd_up (by assumption) (by omega) (by omega)) | fail "q8")) (va_cwS 3 hts gX8_addSlurry_X8_checkRange rfl rfl rfl (by decide +kernel) ⟨Nat.le_of_ble_eq_true rfl, Nat.le_of_ble_eq_true rfl⟩) ⟨xB_blind, hpre _⟩ rfl rfl hl.1 rfl (lv_room (Nat.le_of_ble_eq_true rfl)) dX8_addSlurry_5 ⟨Nat.le_of_ble_eq_true rfl, Nat.le_of_ble_eq_true rfl⟩) (fun (u : Unit) => [(aR, .inr (11, [.ref aG, .ref aP, .ref aH, .ref aY, .ref aT, .ref aS, .ref aF, .ref aX, .int (iI pr), .int (iI tk), .int (iI tol), .int (iI hou)]))]) (fun (u : Unit) => ([(aR, .inr (11, [.ref aG, .ref aP, .ref aH, .ref aY, .ref aT, .ref aS, .ref aF, .ref aX, .int (iI pr), .int (iI tk), .int (iI tol), .int (iI hou)]))] : va_W)) rfl rfl (by decide) (fun _ => rfl) (fun _ => rfl) rfl (fun E ce q9 u H locs hXP hPX hP hD hS hcell hv9 hcl => ?_) (fun u H locs hv_1 hP hD hS => ?_)
    · skip
      have hP : va_P (gD g) vwCl [(aR, .inr (11, [.ref aG, .ref aP, .ref aH, .ref aY, .ref aT, .ref aS, .ref aF, .ref aX, .int (iI pr), .int (iI tk), .int (iI tol), .int (iI hou)]))] H := hP
      have hD : va_D A [(aR, .inr (11, [.ref aG, .ref aP, .ref aH, .ref aY, .ref aT, .ref aS, .ref aF, .ref aX, .int (iI pr), .int (iI tk), .int (iI tol), .int (iI hou)]))] := hD
      obtain ⟨hE, hp⟩ := hPX
      have hp : ¬ (1 ≤ vo ∧ vo ≤ 500) := hp
      subst hE
      rw [hQ9]
      exact x_out hout hlocks hP hD hS hcell hv9 hcl () trivial (Or.inl ⟨rfl, (by
          first
          | (
             unfold slT
             omega)
          | fail "q9")⟩) rfl (Nat.le_of_ble_eq_true rfl) (Nat.le_of_ble_eq_true rfl)
    · skip
      have hP : va_P (gD g) vwCl [(aR, .inr (11, [.ref aG, .ref aP, .ref aH, .ref aY, .ref aT, .ref aS, .ref aF, .ref aX, .int (iI pr), .int (iI tk), .int (iI tol), .int (iI hou)]))] H := hP
      have hD : va_D A [(aR, .inr (11, [.ref aG, .ref aP, .ref aH, .ref aY, .ref aT, .ref aS, .ref aF, .ref aX, .int (iI pr), .int (iI tk), .int (iI tol), .int (iI hou)]))] := hD
      obtain ⟨tv_1, pv_1⟩ := hv_1
      have tv_1 : 1 ≤ vo ∧ vo ≤ 500 := tv_1
      refine lv_aload_n hx hb dX8_addSlurry_8 rfl (lv_at hl 0 rfl) ?_
      refine va_get (D := gD g) (ci := 11) (v := .int (iI tk)) (C := RX8) (T := TX8) (N := 12) hx hb hts hin8 hown hK hP 0 rfl rfl 9 (by decide) (hts (.fieldLink RX8 69 "TunnelRing" "tank" "I") (List.mem_of_getElem? (i := 3) rfl)) (fun _ h9 => h9) rfl dX8_addSlurry_9 ?_
      refine lv_iload_n hx hb dX8_addSlurry_12 rfl (lv_at hl 1 rfl) ?_
      refine x_iadd hx hb dX8_addSlurry_13 ?_
      refine x_sipush hx hb dX8_addSlurry_14 (by decide) ?_
      refine x_cmp_le (tgt := 30) hx hb (by omega) (by omega) dX8_addSlurry_17 (by decide) (fun c_2 => ?_) (fun c_2 => ?_)
      · skip
        refine lv_aload_n hx hb dX8_addSlurry_30 rfl (lv_at hl 0 rfl) ?_
        refine lv_dup hx hb dX8_addSlurry_31 rfl ?_
        refine va_get (D := gD g) (ci := 11) (v := .int (iI tk)) (C := RX8) (T := TX8) (N := 12) hx hb hts hin8 hown hK hP 0 rfl rfl 9 (by decide) (hts (.fieldLink RX8 69 "TunnelRing" "tank" "I") (List.mem_of_getElem? (i := 3) rfl)) (fun _ h9 => h9) rfl dX8_addSlurry_32 ?_
        refine lv_iload_n hx hb dX8_addSlurry_35 rfl (lv_at hl 1 rfl) ?_
        refine x_iadd hx hb dX8_addSlurry_36 ?_
        obtain ⟨v_3, ev_3⟩ : ∃ z : Int, z = tk + vo := ⟨_, rfl⟩
        refine x_top ev_3.symm ?_
        refine va_put (D := gD g) (ci := 11) (v := .int (iI v_3)) (ty := tyX8 9) (C := RX8) (T := TX8) (N := 12) hx hb hts hin8 tyX8 tyX8_ok nmX8 hown hK hP hD hS 0 rfl rfl 9 (by decide) (hts (.fieldLink RX8 69 "TunnelRing" "tank" "I") (List.mem_of_getElem? (i := 3) rfl)) (fun _ h9 => h9) rfl (tyX8_ok 9 (by decide)) rfl rfl (Nat.le_of_ble_eq_true rfl) dX8_addSlurry_37 (fun H locs hP hD hS => ?_)
        have hP : va_P (gD g) vwCl [(aR, .inr (11, [.ref aG, .ref aP, .ref aH, .ref aY, .ref aT, .ref aS, .ref aF, .ref aX, .int (iI pr), .int (iI v_3), .int (iI tol), .int (iI hou)]))] H := hP
        have hD : va_D A [(aR, .inr (11, [.ref aG, .ref aP, .ref aH, .ref aY, .ref aT, .ref aS, .ref aF, .ref aX, .int (iI pr), .int (iI v_3), .int (iI tol), .int (iI hou)]))] := hD
        refine lv_aload_n hx hb dX8_addSlurry_40 rfl (lv_at hl 0 rfl) ?_
        refine va_get (D := gD g) (ci := 11) (v := .int (iI v_3)) (C := RX8) (T := TX8) (N := 12) hx hb hts hin8 hown hK hP 0 rfl rfl 9 (by decide) (hts (.fieldLink RX8 69 "TunnelRing" "tank" "I") (List.mem_of_getElem? (i := 3) rfl)) (fun _ h9 => h9) rfl dX8_addSlurry_41 ?_
        have q_4 : (tk + vo) = v_3 := by
          first
          | (
             first | rfl | omega | (subst_vars; first | rfl | omega))
          | fail "q9"
        have hw_5 := (congrArg (fun (z0 : Int) => ([(aR, .inr (11, [.ref aG, .ref aP, .ref aH, .ref aY, .ref aT, .ref aS, .ref aF, .ref aX, .int (iI pr), .int (iI z0), .int (iI tol), .int (iI hou)]))] : va_W)) q_4.symm)
        rw [hQ9]
        exact vx_ret (x_iret hx hb hr hlocks hP hD hS (S := Unit) rfl dX8_addSlurry_44 () (by
            first
            | (
               first | rfl | omega | (subst_vars; first | rfl | omega))
            | fail "q9") ⟨(by
            first
            | (
               unfold slT
               omega)
            | fail "q9"), trivial⟩ hw_5 (Nat.le_of_ble_eq_true rfl) (Nat.le_of_ble_eq_true rfl))
      · skip
        rw [hQ9]
        exact x_throwS hx hb hflags hown (by decide +kernel) (by decide +kernel) (hts (.classLink RX8 85 "java/lang/IllegalStateException") (List.mem_of_getElem? (i := 1) rfl)) (hts (.initialized "java/lang/IllegalStateException") (List.mem_of_getElem? (i := 2) rfl)) (hC.2.2.2.2.2.1 _ (List.mem_of_getElem? (i := 6) rfl)) (vx_hat (B := [.castable "java/lang/IllegalStateException" "java/lang/IllegalStateException", .declares (Bundle.initS "java/lang/RuntimeException"), .declares (Bundle.initS "java/lang/Exception"), .declares (Bundle.initS "java/lang/Throwable")]) (fun w h => hts w (List.mem_cons_of_mem _ (List.mem_append_left _ (List.mem_append_right _ h)))) (by decide +kernel) (vx_c (va_Nw.use rfl (hC.2.2.2.2.2.2.2.2.2.2.1 "java/lang/IllegalStateException" (List.mem_of_getElem? (i := 1) rfl))) (vx_c (va_Nw.use rfl (hC.2.2.2.2.2.2.2.2.2.2.2.1 "java/lang/RuntimeException" (List.mem_of_getElem? (i := 0) rfl))) (vx_c (va_Nw.use rfl (hC.2.2.2.2.2.2.2.2.2.2.2.1 "java/lang/Exception" (List.mem_of_getElem? (i := 1) rfl))) (vx_c (va_Nw.use rfl (hC.2.2.2.2.2.2.2.2.2.2.2.1 "java/lang/Throwable" (List.mem_of_getElem? (i := 2) rfl))) vx_n))))) (by decide +kernel) hC hP hD hS (hl.1.trans hml.symm) dX8_addSlurry_20 dX8_addSlurry_23 dX8_addSlurry_24 dX8_addSlurry_26 dX8_addSlurry_29 hout (Nat.le_of_ble_eq_true rfl) (Nat.le_of_ble_eq_true rfl) (Nat.le_of_ble_eq_true rfl) (Nat.le_of_ble_eq_true rfl) hlocks () trivial (Or.inr ⟨rfl, (by
            first
            | (
               unfold slT
               omega)
            | fail "q9")⟩) rfl (Nat.le_of_ble_eq_true rfl) (Nat.le_of_ble_eq_true rfl)
  rw [hH, hlo, hQ9] at goal_
  exact goal_

set_option maxHeartbeats 4000000 in
set_option maxRecDepth 100000 in
theorem c_X8_slurry (l : Launch) (g : xg) (sz : Nat) (aR aG aP aH aY aT aS aF aX : Nat) (pr tk tol hou : Int) : Met l yX8_slurry wsX8_slurry { frames := 0, cells := 0, slots := 0, locals := 0 } (va_Pc [.ref aR] (xB g [(aR, .inr (11, [.ref aG, .ref aP, .ref aH, .ref aY, .ref aT, .ref aS, .ref aF, .ref aX, .int (iI pr), .int (iI tk), .int (iI tol), .int (iI hou)]))] sz)) (va_Qi (fun r u => r = iI ((fun (u : Unit) => tk) u) ∧ (fun (u : Unit) => True) u) (fun u t => xE g (va_A [(aR, .inr (11, [.ref aG, .ref aP, .ref aH, .ref aY, .ref aT, .ref aS, .ref aF, .ref aX, .int (iI pr), .int (iI tk), .int (iI tol), .int (iI hou)]))] sz) ((fun (u : Unit) => [(aR, .inr (11, [.ref aG, .ref aP, .ref aH, .ref aY, .ref aT, .ref aS, .ref aF, .ref aX, .int (iI pr), .int (iI tk), .int (iI tol), .int (iI hou)]))]) u) t) (va_A [(aR, .inr (11, [.ref aG, .ref aP, .ref aH, .ref aY, .ref aT, .ref aS, .ref aF, .ref aX, .int (iI pr), .int (iI tk), .int (iI tol), .int (iI hou)]))] sz)) 0 0 (va_A [(aR, .inr (11, [.ref aG, .ref aP, .ref aH, .ref aY, .ref aT, .ref aS, .ref aF, .ref aX, .int (iI pr), .int (iI tk), .int (iI tol), .int (iI hou)]))] sz) := by
  refine x_enter (y := yX8_slurry) (ws := wsX8_slurry) (g := g) (sz := sz) (av := [.ref aR]) (WS := [(aR, .inr (11, [.ref aG, .ref aP, .ref aH, .ref aY, .ref aT, .ref aS, .ref aF, .ref aX, .int (iI pr), .int (iI tk), .int (iI tol), .int (iI hou)]))]) (cc := cX8_slurry) (maxL := 1) (ret := some .int) (Qc := (fun A => (va_Qi (fun r u => r = iI ((fun (u : Unit) => tk) u) ∧ (fun (u : Unit) => True) u) (fun u t => xE g A ((fun (u : Unit) => [(aR, .inr (11, [.ref aG, .ref aP, .ref aH, .ref aY, .ref aT, .ref aS, .ref aF, .ref aX, .int (iI pr), .int (iI tk), .int (iI tol), .int (iI hou)]))]) u) t) A))) (by decide) rfl (Nat.le_of_ble_eq_true rfl) ?_
  intro p e s m args below meth c A ls hx hb hr hml hown hts hlocks hname hC hP hD hS hA hl
  have hK := hC.1
  have hown : s.vm.findClass RX8 = some m.cls := hown
  have hin8 : ∀ w ∈ u_ws RX8 TX8 12, w ∈ wsX8_slurry := by decide +kernel
  have hl : lv_has ls 1 [(0, .ref aR)] := hl
  obtain ⟨H, hH⟩ : ∃ z, z = s.heap := ⟨_, rfl⟩
  obtain ⟨locs, hlo⟩ : ∃ z : List Loc, z = [] := ⟨_, rfl⟩
  obtain ⟨Q9, hQ9⟩ : ∃ z, z = MQ below (va_Qi (fun r u => r = iI ((fun (u : Unit) => tk) u) ∧ (fun (u : Unit) => True) u) (fun u t => xE g A ((fun (u : Unit) => [(aR, .inr (11, [.ref aG, .ref aP, .ref aH, .ref aY, .ref aT, .ref aS, .ref aF, .ref aX, .int (iI pr), .int (iI tk), .int (iI tol), .int (iI hou)]))]) u) t) A) args s 0 0 A := ⟨_, rfl⟩
  have hP : va_P (gD g) vwCl [(aR, .inr (11, [.ref aG, .ref aP, .ref aH, .ref aY, .ref aT, .ref aS, .ref aF, .ref aX, .int (iI pr), .int (iI tk), .int (iI tol), .int (iI hou)]))] H := by rw [hH]; exact hP
  have hS : va_S A s.heap H locs := by rw [hH, hlo]; exact hS
  have goal_ : W p l e { frames := 0, cells := 0, slots := 0, locals := 0 } s m args below meth c H locs 0 0 Q9 (F0 m 0 ls []) := by
    clear hH hlo
    refine lv_aload_n hx hb dX8_slurry_0 rfl (lv_at hl 0 rfl) ?_
    refine va_get (D := gD g) (ci := 11) (v := .int (iI tk)) (C := RX8) (T := TX8) (N := 12) hx hb hts hin8 hown hK hP 0 rfl rfl 9 (by decide) (hts (.fieldLink RX8 69 "TunnelRing" "tank" "I") (List.mem_of_getElem? (i := 1) rfl)) (fun _ h9 => h9) rfl dX8_slurry_1 ?_
    rw [hQ9]
    exact x_iret hx hb hr hlocks hP hD hS (S := Unit) rfl dX8_slurry_4 () rfl trivial rfl (Nat.le_of_ble_eq_true rfl) (Nat.le_of_ble_eq_true rfl)
  rw [hH, hlo, hQ9] at goal_
  exact goal_

set_option maxHeartbeats 4000000 in
set_option maxRecDepth 100000 in
theorem c_X8_clock (l : Launch) (g : xg) (sz : Nat) (aR aG aP aH aY aT aS aF aX : Nat) (pr tk tol hou : Int) : Met l yX8_clock wsX8_clock { frames := 0, cells := 0, slots := 0, locals := 0 } (va_Pc [.ref aR] (xB g [(aR, .inr (11, [.ref aG, .ref aP, .ref aH, .ref aY, .ref aT, .ref aS, .ref aF, .ref aX, .int (iI pr), .int (iI tk), .int (iI tol), .int (iI hou)]))] sz)) (va_Qi (fun r u => r = iI ((fun (u : Unit) => hou) u) ∧ (fun (u : Unit) => True) u) (fun u t => xE g (va_A [(aR, .inr (11, [.ref aG, .ref aP, .ref aH, .ref aY, .ref aT, .ref aS, .ref aF, .ref aX, .int (iI pr), .int (iI tk), .int (iI tol), .int (iI hou)]))] sz) ((fun (u : Unit) => [(aR, .inr (11, [.ref aG, .ref aP, .ref aH, .ref aY, .ref aT, .ref aS, .ref aF, .ref aX, .int (iI pr), .int (iI tk), .int (iI tol), .int (iI hou)]))]) u) t) (va_A [(aR, .inr (11, [.ref aG, .ref aP, .ref aH, .ref aY, .ref aT, .ref aS, .ref aF, .ref aX, .int (iI pr), .int (iI tk), .int (iI tol), .int (iI hou)]))] sz)) 0 0 (va_A [(aR, .inr (11, [.ref aG, .ref aP, .ref aH, .ref aY, .ref aT, .ref aS, .ref aF, .ref aX, .int (iI pr), .int (iI tk), .int (iI tol), .int (iI hou)]))] sz) := by
  refine x_enter (y := yX8_clock) (ws := wsX8_clock) (g := g) (sz := sz) (av := [.ref aR]) (WS := [(aR, .inr (11, [.ref aG, .ref aP, .ref aH, .ref aY, .ref aT, .ref aS, .ref aF, .ref aX, .int (iI pr), .int (iI tk), .int (iI tol), .int (iI hou)]))]) (cc := cX8_clock) (maxL := 1) (ret := some .int) (Qc := (fun A => (va_Qi (fun r u => r = iI ((fun (u : Unit) => hou) u) ∧ (fun (u : Unit) => True) u) (fun u t => xE g A ((fun (u : Unit) => [(aR, .inr (11, [.ref aG, .ref aP, .ref aH, .ref aY, .ref aT, .ref aS, .ref aF, .ref aX, .int (iI pr), .int (iI tk), .int (iI tol), .int (iI hou)]))]) u) t) A))) (by decide) rfl (Nat.le_of_ble_eq_true rfl) ?_
  intro p e s m args below meth c A ls hx hb hr hml hown hts hlocks hname hC hP hD hS hA hl
  have hK := hC.1
  have hown : s.vm.findClass RX8 = some m.cls := hown
  have hin8 : ∀ w ∈ u_ws RX8 TX8 12, w ∈ wsX8_clock := by decide +kernel
  have hl : lv_has ls 1 [(0, .ref aR)] := hl
  obtain ⟨H, hH⟩ : ∃ z, z = s.heap := ⟨_, rfl⟩
  obtain ⟨locs, hlo⟩ : ∃ z : List Loc, z = [] := ⟨_, rfl⟩
  obtain ⟨Q9, hQ9⟩ : ∃ z, z = MQ below (va_Qi (fun r u => r = iI ((fun (u : Unit) => hou) u) ∧ (fun (u : Unit) => True) u) (fun u t => xE g A ((fun (u : Unit) => [(aR, .inr (11, [.ref aG, .ref aP, .ref aH, .ref aY, .ref aT, .ref aS, .ref aF, .ref aX, .int (iI pr), .int (iI tk), .int (iI tol), .int (iI hou)]))]) u) t) A) args s 0 0 A := ⟨_, rfl⟩
  have hP : va_P (gD g) vwCl [(aR, .inr (11, [.ref aG, .ref aP, .ref aH, .ref aY, .ref aT, .ref aS, .ref aF, .ref aX, .int (iI pr), .int (iI tk), .int (iI tol), .int (iI hou)]))] H := by rw [hH]; exact hP
  have hS : va_S A s.heap H locs := by rw [hH, hlo]; exact hS
  have goal_ : W p l e { frames := 0, cells := 0, slots := 0, locals := 0 } s m args below meth c H locs 0 0 Q9 (F0 m 0 ls []) := by
    clear hH hlo
    refine lv_aload_n hx hb dX8_clock_0 rfl (lv_at hl 0 rfl) ?_
    refine va_get (D := gD g) (ci := 11) (v := .int (iI hou)) (C := RX8) (T := TX8) (N := 12) hx hb hts hin8 hown hK hP 0 rfl rfl 11 (by decide) (hts (.fieldLink RX8 75 "TunnelRing" "hour" "I") (List.mem_of_getElem? (i := 1) rfl)) (fun _ h9 => h9) rfl dX8_clock_1 ?_
    rw [hQ9]
    exact x_iret hx hb hr hlocks hP hD hS (S := Unit) rfl dX8_clock_4 () rfl trivial rfl (Nat.le_of_ble_eq_true rfl) (Nat.le_of_ble_eq_true rfl)
  rw [hH, hlo, hQ9] at goal_
  exact goal_

set_option maxHeartbeats 4000000 in
set_option maxRecDepth 100000 in
theorem c_X8_ringCount (l : Launch) (g : xg) (sz : Nat) (aR aG aP aH aY aT aS aF aX aTp aTt aTx aTy aE : Nat) (pr tk tol hou ld : Int) : Met l yX8_ringCount wsX8_ringCount { frames := 0, cells := 0, slots := 0, locals := 0 } (va_Pc [.ref aR] (xB g [(aR, .inr (11, [.ref aG, .ref aP, .ref aH, .ref aY, .ref aT, .ref aS, .ref aF, .ref aX, .int (iI pr), .int (iI tk), .int (iI tol), .int (iI hou)])), (aT, .inr (9, [.ref aTp, .ref aTt, .ref aTx, .ref aTy, .ref aE, .int (iI ld)]))] sz)) (va_Qi (fun r u => r = iI ((fun (u : Unit) => ld) u) ∧ (fun (u : Unit) => True) u) (fun u t => xE g (va_A [(aR, .inr (11, [.ref aG, .ref aP, .ref aH, .ref aY, .ref aT, .ref aS, .ref aF, .ref aX, .int (iI pr), .int (iI tk), .int (iI tol), .int (iI hou)])), (aT, .inr (9, [.ref aTp, .ref aTt, .ref aTx, .ref aTy, .ref aE, .int (iI ld)]))] sz) ((fun (u : Unit) => [(aR, .inr (11, [.ref aG, .ref aP, .ref aH, .ref aY, .ref aT, .ref aS, .ref aF, .ref aX, .int (iI pr), .int (iI tk), .int (iI tol), .int (iI hou)])), (aT, .inr (9, [.ref aTp, .ref aTt, .ref aTx, .ref aTy, .ref aE, .int (iI ld)]))]) u) t) (va_A [(aR, .inr (11, [.ref aG, .ref aP, .ref aH, .ref aY, .ref aT, .ref aS, .ref aF, .ref aX, .int (iI pr), .int (iI tk), .int (iI tol), .int (iI hou)])), (aT, .inr (9, [.ref aTp, .ref aTt, .ref aTx, .ref aTy, .ref aE, .int (iI ld)]))] sz)) 0 0 (va_A [(aR, .inr (11, [.ref aG, .ref aP, .ref aH, .ref aY, .ref aT, .ref aS, .ref aF, .ref aX, .int (iI pr), .int (iI tk), .int (iI tol), .int (iI hou)])), (aT, .inr (9, [.ref aTp, .ref aTt, .ref aTx, .ref aTy, .ref aE, .int (iI ld)]))] sz) := by
  refine x_enter (y := yX8_ringCount) (ws := wsX8_ringCount) (g := g) (sz := sz) (av := [.ref aR]) (WS := [(aR, .inr (11, [.ref aG, .ref aP, .ref aH, .ref aY, .ref aT, .ref aS, .ref aF, .ref aX, .int (iI pr), .int (iI tk), .int (iI tol), .int (iI hou)])), (aT, .inr (9, [.ref aTp, .ref aTt, .ref aTx, .ref aTy, .ref aE, .int (iI ld)]))]) (cc := cX8_ringCount) (maxL := 1) (ret := some .int) (Qc := (fun A => (va_Qi (fun r u => r = iI ((fun (u : Unit) => ld) u) ∧ (fun (u : Unit) => True) u) (fun u t => xE g A ((fun (u : Unit) => [(aR, .inr (11, [.ref aG, .ref aP, .ref aH, .ref aY, .ref aT, .ref aS, .ref aF, .ref aX, .int (iI pr), .int (iI tk), .int (iI tol), .int (iI hou)])), (aT, .inr (9, [.ref aTp, .ref aTt, .ref aTx, .ref aTy, .ref aE, .int (iI ld)]))]) u) t) A))) (by decide) rfl (Nat.le_of_ble_eq_true rfl) ?_
  intro p e s m args below meth c A ls hx hb hr hml hown hts hlocks hname hC hP hD hS hA hl
  have hK := hC.1
  have hown : s.vm.findClass RX8 = some m.cls := hown
  have hin6 : ∀ w ∈ u_ws RX6 TX6 6, w ∈ wsX8_ringCount := by decide +kernel
  have hin8 : ∀ w ∈ u_ws RX8 TX8 12, w ∈ wsX8_ringCount := by decide +kernel
  have hl : lv_has ls 1 [(0, .ref aR)] := hl
  obtain ⟨H, hH⟩ : ∃ z, z = s.heap := ⟨_, rfl⟩
  obtain ⟨locs, hlo⟩ : ∃ z : List Loc, z = [] := ⟨_, rfl⟩
  obtain ⟨Q9, hQ9⟩ : ∃ z, z = MQ below (va_Qi (fun r u => r = iI ((fun (u : Unit) => ld) u) ∧ (fun (u : Unit) => True) u) (fun u t => xE g A ((fun (u : Unit) => [(aR, .inr (11, [.ref aG, .ref aP, .ref aH, .ref aY, .ref aT, .ref aS, .ref aF, .ref aX, .int (iI pr), .int (iI tk), .int (iI tol), .int (iI hou)])), (aT, .inr (9, [.ref aTp, .ref aTt, .ref aTx, .ref aTy, .ref aE, .int (iI ld)]))]) u) t) A) args s 0 0 A := ⟨_, rfl⟩
  have hP : va_P (gD g) vwCl [(aR, .inr (11, [.ref aG, .ref aP, .ref aH, .ref aY, .ref aT, .ref aS, .ref aF, .ref aX, .int (iI pr), .int (iI tk), .int (iI tol), .int (iI hou)])), (aT, .inr (9, [.ref aTp, .ref aTt, .ref aTx, .ref aTy, .ref aE, .int (iI ld)]))] H := by rw [hH]; exact hP
  have hS : va_S A s.heap H locs := by rw [hH, hlo]; exact hS
  have goal_ : W p l e { frames := 0, cells := 0, slots := 0, locals := 0 } s m args below meth c H locs 0 0 Q9 (F0 m 0 ls []) := by
    clear hH hlo
    refine lv_aload_n hx hb dX8_ringCount_0 rfl (lv_at hl 0 rfl) ?_
    refine va_get (D := gD g) (ci := 11) (v := .ref aT) (C := RX8) (T := TX8) (N := 12) hx hb hts hin8 hown hK hP 0 rfl rfl 4 (by decide) (hts (.fieldLink RX8 40 "TunnelRing" "tube" "LTunnelRing$Tube;") (List.mem_of_getElem? (i := 1) rfl)) (fun _ h9 => h9) rfl dX8_ringCount_1 ?_
    refine va_get (D := gD g) (ci := 9) (v := .int (iI ld)) (C := RX6) (T := TX6) (N := 6) hx hb hts hin6 hown hK hP 1 rfl rfl 5 (by decide) (hts (.fieldLink RX8 178 "TunnelRing$Tube" "laid" "I") (List.mem_of_getElem? (i := 2) rfl)) (fun _ h9 => h9) rfl dX8_ringCount_4 ?_
    rw [hQ9]
    exact x_iret hx hb hr hlocks hP hD hS (S := Unit) rfl dX8_ringCount_7 () rfl trivial rfl (Nat.le_of_ble_eq_true rfl) (Nat.le_of_ble_eq_true rfl)
  rw [hH, hlo, hQ9] at goal_
  exact goal_

set_option maxHeartbeats 4000000 in
set_option maxRecDepth 100000 in
theorem c_X8_slurryTaken (l : Launch) (g : xg) (sz : Nat) (aR aG aP aH aY aT aS aF aX aGn aGw aGs : Nat) (pr tk tol hou kn rg : Int) (nd wk : Int → Int) (hkn : 0 ≤ kn ∧ kn ≤ 200) (hpr : 0 ≤ pr ∧ pr ≤ 100) (hb_nd : bnd nd 0 100) (hb_wk : bnd wk 0 20) (hr_rg : iR rg) : Met l yX8_slurryTaken wsX8_slurryTaken { frames := 2, cells := 0, slots := 0, locals := 42 } (va_Pc [.ref aR, .int (iI rg)] (xB g [(aR, .inr (11, [.ref aG, .ref aP, .ref aH, .ref aY, .ref aT, .ref aS, .ref aF, .ref aX, .int (iI pr), .int (iI tk), .int (iI tol), .int (iI hou)])), (aG, .inr (4, [.ref aGn, .ref aGw, .ref aGs, .int (iI kn)])), (aGn, .inl (gI g, 200, .inl (ar nd))), (aGw, .inl (gI g, 200, .inl (ar wk)))] sz)) (va_Qi (fun r u => r = iI ((fun (u : Unit) => 10 + gt0 kn wk rg + mx 0 (pr - (gt0 kn nd rg + 20))) u) ∧ (fun (u : Unit) => 10 ≤ (10 + gt0 kn wk rg + mx 0 (pr - (gt0 kn nd rg + 20))) ∧ (10 + gt0 kn wk rg + mx 0 (pr - (gt0 kn nd rg + 20))) ≤ 200) u) (fun u t => xE g (va_A [(aR, .inr (11, [.ref aG, .ref aP, .ref aH, .ref aY, .ref aT, .ref aS, .ref aF, .ref aX, .int (iI pr), .int (iI tk), .int (iI tol), .int (iI hou)])), (aG, .inr (4, [.ref aGn, .ref aGw, .ref aGs, .int (iI kn)])), (aGn, .inl (gI g, 200, .inl (ar nd))), (aGw, .inl (gI g, 200, .inl (ar wk)))] sz) ((fun (u : Unit) => [(aR, .inr (11, [.ref aG, .ref aP, .ref aH, .ref aY, .ref aT, .ref aS, .ref aF, .ref aX, .int (iI pr), .int (iI tk), .int (iI tol), .int (iI hou)])), (aG, .inr (4, [.ref aGn, .ref aGw, .ref aGs, .int (iI kn)])), (aGn, .inl (gI g, 200, .inl (ar nd))), (aGw, .inl (gI g, 200, .inl (ar wk)))]) u) t) (va_A [(aR, .inr (11, [.ref aG, .ref aP, .ref aH, .ref aY, .ref aT, .ref aS, .ref aF, .ref aX, .int (iI pr), .int (iI tk), .int (iI tol), .int (iI hou)])), (aG, .inr (4, [.ref aGn, .ref aGw, .ref aGs, .int (iI kn)])), (aGn, .inl (gI g, 200, .inl (ar nd))), (aGw, .inl (gI g, 200, .inl (ar wk)))] sz)) 0 0 (va_A [(aR, .inr (11, [.ref aG, .ref aP, .ref aH, .ref aY, .ref aT, .ref aS, .ref aF, .ref aX, .int (iI pr), .int (iI tk), .int (iI tol), .int (iI hou)])), (aG, .inr (4, [.ref aGn, .ref aGw, .ref aGs, .int (iI kn)])), (aGn, .inl (gI g, 200, .inl (ar nd))), (aGw, .inl (gI g, 200, .inl (ar wk)))] sz) := by
  refine x_enter (y := yX8_slurryTaken) (ws := wsX8_slurryTaken) (g := g) (sz := sz) (av := [.ref aR, .int (iI rg)]) (WS := [(aR, .inr (11, [.ref aG, .ref aP, .ref aH, .ref aY, .ref aT, .ref aS, .ref aF, .ref aX, .int (iI pr), .int (iI tk), .int (iI tol), .int (iI hou)])), (aG, .inr (4, [.ref aGn, .ref aGw, .ref aGs, .int (iI kn)])), (aGn, .inl (gI g, 200, .inl (ar nd))), (aGw, .inl (gI g, 200, .inl (ar wk)))]) (cc := cX8_slurryTaken) (maxL := 3) (ret := some .int) (Qc := (fun A => (va_Qi (fun r u => r = iI ((fun (u : Unit) => 10 + gt0 kn wk rg + mx 0 (pr - (gt0 kn nd rg + 20))) u) ∧ (fun (u : Unit) => 10 ≤ (10 + gt0 kn wk rg + mx 0 (pr - (gt0 kn nd rg + 20))) ∧ (10 + gt0 kn wk rg + mx 0 (pr - (gt0 kn nd rg + 20))) ≤ 200) u) (fun u t => xE g A ((fun (u : Unit) => [(aR, .inr (11, [.ref aG, .ref aP, .ref aH, .ref aY, .ref aT, .ref aS, .ref aF, .ref aX, .int (iI pr), .int (iI tk), .int (iI tol), .int (iI hou)])), (aG, .inr (4, [.ref aGn, .ref aGw, .ref aGs, .int (iI kn)])), (aGn, .inl (gI g, 200, .inl (ar nd))), (aGw, .inl (gI g, 200, .inl (ar wk)))]) u) t) A))) (by decide) rfl (Nat.le_of_ble_eq_true rfl) ?_
  intro p e s m args below meth c A ls hx hb hr hml hown hts hlocks hname hC hP hD hS hA hl
  have hK := hC.1
  have hown : s.vm.findClass RX8 = some m.cls := hown
  have hin8 : ∀ w ∈ u_ws RX8 TX8 12, w ∈ wsX8_slurryTaken := by decide +kernel
  have hl : lv_has ls 3 [(0, .ref aR), (1, .int (iI rg))] := hl
  obtain ⟨H, hH⟩ : ∃ z, z = s.heap := ⟨_, rfl⟩
  obtain ⟨locs, hlo⟩ : ∃ z : List Loc, z = [] := ⟨_, rfl⟩
  obtain ⟨Q9, hQ9⟩ : ∃ z, z = MQ below (va_Qi (fun r u => r = iI ((fun (u : Unit) => 10 + gt0 kn wk rg + mx 0 (pr - (gt0 kn nd rg + 20))) u) ∧ (fun (u : Unit) => 10 ≤ (10 + gt0 kn wk rg + mx 0 (pr - (gt0 kn nd rg + 20))) ∧ (10 + gt0 kn wk rg + mx 0 (pr - (gt0 kn nd rg + 20))) ≤ 200) u) (fun u t => xE g A ((fun (u : Unit) => [(aR, .inr (11, [.ref aG, .ref aP, .ref aH, .ref aY, .ref aT, .ref aS, .ref aF, .ref aX, .int (iI pr), .int (iI tk), .int (iI tol), .int (iI hou)])), (aG, .inr (4, [.ref aGn, .ref aGw, .ref aGs, .int (iI kn)])), (aGn, .inl (gI g, 200, .inl (ar nd))), (aGw, .inl (gI g, 200, .inl (ar wk)))]) u) t) A) args s 0 0 A := ⟨_, rfl⟩
  have hP : va_P (gD g) vwCl [(aR, .inr (11, [.ref aG, .ref aP, .ref aH, .ref aY, .ref aT, .ref aS, .ref aF, .ref aX, .int (iI pr), .int (iI tk), .int (iI tol), .int (iI hou)])), (aG, .inr (4, [.ref aGn, .ref aGw, .ref aGs, .int (iI kn)])), (aGn, .inl (gI g, 200, .inl (ar nd))), (aGw, .inl (gI g, 200, .inl (ar wk)))] H := by rw [hH]; exact hP
  have hS : va_S A s.heap H locs := by rw [hH, hlo]; exact hS
  have goal_ : W p l e { frames := 2, cells := 0, slots := 0, locals := 42 } s m args below meth c H locs 0 0 Q9 (F0 m 0 ls []) := by
    clear hH hlo
    refine x_iconst hx hb dX8_slurryTaken_0 ?_
    refine lv_aload_n hx hb dX8_slurryTaken_1 rfl (lv_at hl 0 rfl) ?_
    refine va_get (D := gD g) (ci := 11) (v := .int (iI pr)) (C := RX8) (T := TX8) (N := 12) hx hb hts hin8 hown hK hP 0 rfl rfl 8 (by decide) (hts (.fieldLink RX8 65 "TunnelRing" "pressure" "I") (List.mem_of_getElem? (i := 1) rfl)) (fun _ h9 => h9) rfl dX8_slurryTaken_2 ?_
    refine lv_aload_n hx hb dX8_slurryTaken_5 rfl (lv_at hl 0 rfl) ?_
    refine va_get (D := gD g) (ci := 11) (v := .ref aG) (C := RX8) (T := TX8) (N := 12) hx hb hts hin8 hown hK hP 0 rfl rfl 0 (by decide) (hts (.fieldLink RX8 10 "TunnelRing" "ground" "LTunnelRing$Ground;") (List.mem_of_getElem? (i := 2) rfl)) (fun _ h9 => h9) rfl dX8_slurryTaken_6 ?_
    refine lv_iload_n hx hb dX8_slurryTaken_9 rfl (lv_at hl 1 rfl) ?_
    refine x_calli (S := Unit) (wc := [(aG, .inr (4, [.ref aGn, .ref aGw, .ref aGs, .int (iI kn)])), (aGn, .inl (gI g, 200, .inl (ar nd)))]) (wr := [(aR, .inr (11, [.ref aG, .ref aP, .ref aH, .ref aY, .ref aT, .ref aS, .ref aF, .ref aX, .int (iI pr), .int (iI tk), .int (iI tol), .int (iI hou)])), (aGw, .inl (gI g, 200, .inl (ar wk)))]) hC hP hD hS hA [1, 2] [0, 3] [0, 2, 3, 1] rfl rfl (fun hpre => va_runV (As := [.int (iI rg)]) (rest := [.int (iI pr), .int (iI 0)]) ⟨hx, hb, hml, hown, hts⟩ (c_X1_needOf l g H.size aG aGn aGw aGs kn rg nd (by first | (first | assumption | omega | exact bnd_up (by assumption) (by omega) (by omega)) | fail "q8") (by first | (first | assumption | omega | exact bnd_up (by assumption) (by omega) (by omega)) | fail "q8") (by first | (first | assumption | omega | exact bnd_up (by assumption) (by omega) (by omega)) | fail "q8")) (cwV 1 hts gX8_slurryTaken_X1_needOf rfl rfl rfl (by decide +kernel) ⟨Nat.le_of_ble_eq_true rfl, Nat.le_of_ble_eq_true rfl⟩) ⟨xB_blind, va_recv hK hP (ci := 4) (q0 := 1) rfl rfl, hpre _⟩ rfl rfl hl.1 rfl (lv_room (Nat.le_of_ble_eq_true rfl)) dX8_slurryTaken_10 ⟨Nat.le_of_ble_eq_true rfl, Nat.le_of_ble_eq_true rfl⟩) (fun (u : Unit) => [(aR, .inr (11, [.ref aG, .ref aP, .ref aH, .ref aY, .ref aT, .ref aS, .ref aF, .ref aX, .int (iI pr), .int (iI tk), .int (iI tol), .int (iI hou)])), (aG, .inr (4, [.ref aGn, .ref aGw, .ref aGs, .int (iI kn)])), (aGn, .inl (gI g, 200, .inl (ar nd))), (aGw, .inl (gI g, 200, .inl (ar wk)))]) rfl rfl (by decide) (fun _ => rfl) rfl (fun u v_1 H locs hv_1 pv_1 hP hD hS => ?_)
    have hP : va_P (gD g) vwCl [(aR, .inr (11, [.ref aG, .ref aP, .ref aH, .ref aY, .ref aT, .ref aS, .ref aF, .ref aX, .int (iI pr), .int (iI tk), .int (iI tol), .int (iI hou)])), (aG, .inr (4, [.ref aGn, .ref aGw, .ref aGs, .int (iI kn)])), (aGn, .inl (gI g, 200, .inl (ar nd))), (aGw, .inl (gI g, 200, .inl (ar wk)))] H := hP
    have hD : va_D A [(aR, .inr (11, [.ref aG, .ref aP, .ref aH, .ref aY, .ref aT, .ref aS, .ref aF, .ref aX, .int (iI pr), .int (iI tk), .int (iI tol), .int (iI hou)])), (aG, .inr (4, [.ref aGn, .ref aGw, .ref aGs, .int (iI kn)])), (aGn, .inl (gI g, 200, .inl (ar nd))), (aGw, .inl (gI g, 200, .inl (ar wk)))] := hD
    have hv_1 : v_1 = gt0 kn nd rg := hv_1
    have pv_1 : 0 ≤ v_1 ∧ v_1 ≤ 100 := by first | exact pv_1 | (rw [hv_1]; exact pv_1)
    refine x_bipush hx hb dX8_slurryTaken_13 (by decide) ?_
    refine x_iadd hx hb dX8_slurryTaken_15 ?_
    refine x_isub hx hb dX8_slurryTaken_16 ?_
    refine x_max hx hb (hml.trans hl.1.symm) hown (hts (.methodLink RX8 345 Lib.Math.max.name) (List.mem_of_getElem? (i := 3) rfl)) (hts (.static Lib.Math.max.name) (List.mem_of_getElem? (i := 4) rfl)) (hts (.initialized "java/lang/Math") (List.mem_of_getElem? (i := 5) rfl)) (hts (.code Lib.Math.max.name Lib.Math.max.code 2 (some .int)) (List.mem_of_getElem? (i := 6) rfl)) (Nat.le_of_ble_eq_true rfl) (Nat.le_of_ble_eq_true rfl) (Nat.le_of_ble_eq_true rfl) (Nat.le_of_ble_eq_true rfl) (by omega) (by omega) dX8_slurryTaken_17 (fun v_2 hv_2 => ?_)
    have bv_2 := mx_r 0 (pr - (v_1 + 20)) hv_2
    refine lv_istore_n (lv' := [(2, .int (iI v_2)), (0, .ref aR), (1, .int (iI rg))]) hx hb dX8_slurryTaken_20 rfl hl (by decide) rfl (fun ls hl => ?_)
    refine x_bipush hx hb dX8_slurryTaken_21 (by decide) ?_
    refine lv_aload_n hx hb dX8_slurryTaken_23 rfl (lv_at hl 1 rfl) ?_
    refine va_get (D := gD g) (ci := 11) (v := .ref aG) (C := RX8) (T := TX8) (N := 12) hx hb hts hin8 hown hK hP 0 rfl rfl 0 (by decide) (hts (.fieldLink RX8 10 "TunnelRing" "ground" "LTunnelRing$Ground;") (List.mem_of_getElem? (i := 2) rfl)) (fun _ h9 => h9) rfl dX8_slurryTaken_24 ?_
    refine lv_iload_n hx hb dX8_slurryTaken_27 rfl (lv_at hl 2 rfl) ?_
    refine x_calli (S := Unit) (wc := [(aG, .inr (4, [.ref aGn, .ref aGw, .ref aGs, .int (iI kn)])), (aGw, .inl (gI g, 200, .inl (ar wk)))]) (wr := [(aR, .inr (11, [.ref aG, .ref aP, .ref aH, .ref aY, .ref aT, .ref aS, .ref aF, .ref aX, .int (iI pr), .int (iI tk), .int (iI tol), .int (iI hou)])), (aGn, .inl (gI g, 200, .inl (ar nd)))]) hC hP hD hS hA [1, 3] [0, 2] [0, 2, 1, 3] rfl rfl (fun hpre => va_runV (As := [.int (iI rg)]) (rest := [.int (iI 10)]) ⟨hx, hb, hml, hown, hts⟩ (c_X1_weaknessOf l g H.size aG aGn aGw aGs kn rg wk (by first | (first | assumption | omega | exact bnd_up (by assumption) (by omega) (by omega)) | fail "q8") (by first | (first | assumption | omega | exact bnd_up (by assumption) (by omega) (by omega)) | fail "q8") (by first | (first | assumption | omega | exact bnd_up (by assumption) (by omega) (by omega)) | fail "q8")) (cwV 1 hts gX8_slurryTaken_X1_weaknessOf rfl rfl rfl (by decide +kernel) ⟨Nat.le_of_ble_eq_true rfl, Nat.le_of_ble_eq_true rfl⟩) ⟨xB_blind, va_recv hK hP (ci := 4) (q0 := 1) rfl rfl, hpre _⟩ rfl rfl hl.1 rfl (lv_room (Nat.le_of_ble_eq_true rfl)) dX8_slurryTaken_28 ⟨Nat.le_of_ble_eq_true rfl, Nat.le_of_ble_eq_true rfl⟩) (fun (u : Unit) => [(aR, .inr (11, [.ref aG, .ref aP, .ref aH, .ref aY, .ref aT, .ref aS, .ref aF, .ref aX, .int (iI pr), .int (iI tk), .int (iI tol), .int (iI hou)])), (aG, .inr (4, [.ref aGn, .ref aGw, .ref aGs, .int (iI kn)])), (aGn, .inl (gI g, 200, .inl (ar nd))), (aGw, .inl (gI g, 200, .inl (ar wk)))]) rfl rfl (by decide) (fun _ => rfl) rfl (fun u v_3 H locs hv_3 pv_3 hP hD hS => ?_)
    have hP : va_P (gD g) vwCl [(aR, .inr (11, [.ref aG, .ref aP, .ref aH, .ref aY, .ref aT, .ref aS, .ref aF, .ref aX, .int (iI pr), .int (iI tk), .int (iI tol), .int (iI hou)])), (aG, .inr (4, [.ref aGn, .ref aGw, .ref aGs, .int (iI kn)])), (aGn, .inl (gI g, 200, .inl (ar nd))), (aGw, .inl (gI g, 200, .inl (ar wk)))] H := hP
    have hD : va_D A [(aR, .inr (11, [.ref aG, .ref aP, .ref aH, .ref aY, .ref aT, .ref aS, .ref aF, .ref aX, .int (iI pr), .int (iI tk), .int (iI tol), .int (iI hou)])), (aG, .inr (4, [.ref aGn, .ref aGw, .ref aGs, .int (iI kn)])), (aGn, .inl (gI g, 200, .inl (ar nd))), (aGw, .inl (gI g, 200, .inl (ar wk)))] := hD
    have hv_3 : v_3 = gt0 kn wk rg := hv_3
    have pv_3 : 0 ≤ v_3 ∧ v_3 ≤ 20 := by first | exact pv_3 | (rw [hv_3]; exact pv_3)
    refine x_iadd hx hb dX8_slurryTaken_31 ?_
    refine lv_iload_n hx hb dX8_slurryTaken_32 rfl (lv_at hl 0 rfl) ?_
    refine x_iadd hx hb dX8_slurryTaken_33 ?_
    rw [hQ9]
    exact x_iret hx hb hr hlocks hP hD hS (S := Unit) rfl dX8_slurryTaken_34 () (by
        first
        | (
           first | rfl | omega | (subst_vars; first | rfl | omega))
        | fail "q9") (by
        first
        | (
           have h1 := mx_r 0 (pr - (gt0 kn nd rg + 20)) rfl
           have h2 := gt0_r (k := kn) (i := rg) hb_nd (by omega) (by omega)
           have h3 := gt0_r (k := kn) (i := rg) hb_wk (by omega) (by omega)
           omega)
        | fail "q9") rfl (Nat.le_of_ble_eq_true rfl) (Nat.le_of_ble_eq_true rfl)
  rw [hH, hlo, hQ9] at goal_
  exact goal_

set_option maxHeartbeats 4000000 in
set_option maxRecDepth 100000 in
theorem c_X8_slurryFor (l : Launch) (hflags : l.stackTraces = false) (g : xg) (sz : Nat) (aR aG aP aH aY aT aS aF aX aGn aGw aGs aTp aTt aTx aTy aE : Nat) (pr tk tol hou kn ld : Int) (nd wk : Int → Int) (hkn : 0 ≤ kn ∧ kn ≤ 200) (hld : 0 ≤ ld ∧ ld ≤ 200) (hpr : 0 ≤ pr ∧ pr ≤ 100) (hb_nd : bnd nd 0 100) (hb_wk : bnd wk 0 20) : vx_Met l yX8_slurryFor wsX8_slurryFor { frames := 6, cells := 1, slots := 6, locals := 92 } (va_Pc [.ref aR] (xB g [(aR, .inr (11, [.ref aG, .ref aP, .ref aH, .ref aY, .ref aT, .ref aS, .ref aF, .ref aX, .int (iI pr), .int (iI tk), .int (iI tol), .int (iI hou)])), (aG, .inr (4, [.ref aGn, .ref aGw, .ref aGs, .int (iI kn)])), (aGn, .inl (gI g, 200, .inl (ar nd))), (aGw, .inl (gI g, 200, .inl (ar wk))), (aT, .inr (9, [.ref aTp, .ref aTt, .ref aTx, .ref aTy, .ref aE, .int (iI ld)]))] sz)) (va_Qi (fun r u => r = iI ((fun (u : Unit) => takF nd wk pr ld) u) ∧ (fun (u : Unit) => (sfT ld kn = 0) ∧ (True)) u) (fun u t => xE g (va_A [(aR, .inr (11, [.ref aG, .ref aP, .ref aH, .ref aY, .ref aT, .ref aS, .ref aF, .ref aX, .int (iI pr), .int (iI tk), .int (iI tol), .int (iI hou)])), (aG, .inr (4, [.ref aGn, .ref aGw, .ref aGs, .int (iI kn)])), (aGn, .inl (gI g, 200, .inl (ar nd))), (aGw, .inl (gI g, 200, .inl (ar wk))), (aT, .inr (9, [.ref aTp, .ref aTt, .ref aTx, .ref aTy, .ref aE, .int (iI ld)]))] sz) ((fun (u : Unit) => [(aR, .inr (11, [.ref aG, .ref aP, .ref aH, .ref aY, .ref aT, .ref aS, .ref aF, .ref aX, .int (iI pr), .int (iI tk), .int (iI tol), .int (iI hou)])), (aG, .inr (4, [.ref aGn, .ref aGw, .ref aGs, .int (iI kn)])), (aGn, .inl (gI g, 200, .inl (ar nd))), (aGw, .inl (gI g, 200, .inl (ar wk))), (aT, .inr (9, [.ref aTp, .ref aTt, .ref aTx, .ref aTy, .ref aE, .int (iI ld)]))]) u) t) (va_A [(aR, .inr (11, [.ref aG, .ref aP, .ref aH, .ref aY, .ref aT, .ref aS, .ref aF, .ref aX, .int (iI pr), .int (iI tk), .int (iI tol), .int (iI hou)])), (aG, .inr (4, [.ref aGn, .ref aGw, .ref aGs, .int (iI kn)])), (aGn, .inl (gI g, 200, .inl (ar nd))), (aGw, .inl (gI g, 200, .inl (ar wk))), (aT, .inr (9, [.ref aTp, .ref aTt, .ref aTx, .ref aTy, .ref aE, .int (iI ld)]))] sz)) (xX g (va_A [(aR, .inr (11, [.ref aG, .ref aP, .ref aH, .ref aY, .ref aT, .ref aS, .ref aF, .ref aX, .int (iI pr), .int (iI tk), .int (iI tol), .int (iI hou)])), (aG, .inr (4, [.ref aGn, .ref aGw, .ref aGs, .int (iI kn)])), (aGn, .inl (gI g, 200, .inl (ar nd))), (aGw, .inl (gI g, 200, .inl (ar wk))), (aT, .inr (9, [.ref aTp, .ref aTt, .ref aTx, .ref aTy, .ref aE, .int (iI ld)]))] sz) (fun (u : Unit) => True) (fun E : String => (E = "java/util/NoSuchElementException" ∧ (sfT ld kn = 1))) (fun (u : Unit) => ([(aR, .inr (11, [.ref aG, .ref aP, .ref aH, .ref aY, .ref aT, .ref aS, .ref aF, .ref aX, .int (iI pr), .int (iI tk), .int (iI tol), .int (iI hou)])), (aG, .inr (4, [.ref aGn, .ref aGw, .ref aGs, .int (iI kn)])), (aGn, .inl (gI g, 200, .inl (ar nd))), (aGw, .inl (gI g, 200, .inl (ar wk))), (aT, .inr (9, [.ref aTp, .ref aTt, .ref aTx, .ref aTy, .ref aE, .int (iI ld)]))] : va_W))) 1 6 (va_A [(aR, .inr (11, [.ref aG, .ref aP, .ref aH, .ref aY, .ref aT, .ref aS, .ref aF, .ref aX, .int (iI pr), .int (iI tk), .int (iI tol), .int (iI hou)])), (aG, .inr (4, [.ref aGn, .ref aGw, .ref aGs, .int (iI kn)])), (aGn, .inl (gI g, 200, .inl (ar nd))), (aGw, .inl (gI g, 200, .inl (ar wk))), (aT, .inr (9, [.ref aTp, .ref aTt, .ref aTx, .ref aTy, .ref aE, .int (iI ld)]))] sz) := by
  refine x_enterX (y := yX8_slurryFor) (ws := wsX8_slurryFor) (g := g) (sz := sz) (av := [.ref aR]) (WS := [(aR, .inr (11, [.ref aG, .ref aP, .ref aH, .ref aY, .ref aT, .ref aS, .ref aF, .ref aX, .int (iI pr), .int (iI tk), .int (iI tol), .int (iI hou)])), (aG, .inr (4, [.ref aGn, .ref aGw, .ref aGs, .int (iI kn)])), (aGn, .inl (gI g, 200, .inl (ar nd))), (aGw, .inl (gI g, 200, .inl (ar wk))), (aT, .inr (9, [.ref aTp, .ref aTt, .ref aTx, .ref aTy, .ref aE, .int (iI ld)]))]) (cc := cX8_slurryFor) (maxL := 1) (ret := some .int) (Qc := (fun A => (va_Qi (fun r u => r = iI ((fun (u : Unit) => takF nd wk pr ld) u) ∧ (fun (u : Unit) => (sfT ld kn = 0) ∧ (True)) u) (fun u t => xE g A ((fun (u : Unit) => [(aR, .inr (11, [.ref aG, .ref aP, .ref aH, .ref aY, .ref aT, .ref aS, .ref aF, .ref aX, .int (iI pr), .int (iI tk), .int (iI tol), .int (iI hou)])), (aG, .inr (4, [.ref aGn, .ref aGw, .ref aGs, .int (iI kn)])), (aGn, .inl (gI g, 200, .inl (ar nd))), (aGw, .inl (gI g, 200, .inl (ar wk))), (aT, .inr (9, [.ref aTp, .ref aTt, .ref aTx, .ref aTy, .ref aE, .int (iI ld)]))]) u) t) A))) (XC := (fun A => (xX g A (fun (u : Unit) => True) (fun E : String => (E = "java/util/NoSuchElementException" ∧ (sfT ld kn = 1))) (fun (u : Unit) => ([(aR, .inr (11, [.ref aG, .ref aP, .ref aH, .ref aY, .ref aT, .ref aS, .ref aF, .ref aX, .int (iI pr), .int (iI tk), .int (iI tol), .int (iI hou)])), (aG, .inr (4, [.ref aGn, .ref aGw, .ref aGs, .int (iI kn)])), (aGn, .inl (gI g, 200, .inl (ar nd))), (aGw, .inl (gI g, 200, .inl (ar wk))), (aT, .inr (9, [.ref aTp, .ref aTt, .ref aTx, .ref aTy, .ref aE, .int (iI ld)]))] : va_W))))) (by decide) rfl (Nat.le_of_ble_eq_true rfl) ?_
  intro p e s m args below meth c A ls hx hb hr hml hown hts hlocks hout hC hP hD hS hA hl
  have hK := hC.1
  have hown : s.vm.findClass RX8 = some m.cls := hown
  have hin6 : ∀ w ∈ u_ws RX6 TX6 6, w ∈ wsX8_slurryFor := by decide +kernel
  have hin8 : ∀ w ∈ u_ws RX8 TX8 12, w ∈ wsX8_slurryFor := by decide +kernel
  have hl : lv_has ls 1 [(0, .ref aR)] := hl
  obtain ⟨H, hH⟩ : ∃ z, z = s.heap := ⟨_, rfl⟩
  obtain ⟨locs, hlo⟩ : ∃ z : List Loc, z = [] := ⟨_, rfl⟩
  obtain ⟨Q9, hQ9⟩ : ∃ z, z = vx_MQ below (va_Qi (fun r u => r = iI ((fun (u : Unit) => takF nd wk pr ld) u) ∧ (fun (u : Unit) => (sfT ld kn = 0) ∧ (True)) u) (fun u t => xE g A ((fun (u : Unit) => [(aR, .inr (11, [.ref aG, .ref aP, .ref aH, .ref aY, .ref aT, .ref aS, .ref aF, .ref aX, .int (iI pr), .int (iI tk), .int (iI tol), .int (iI hou)])), (aG, .inr (4, [.ref aGn, .ref aGw, .ref aGs, .int (iI kn)])), (aGn, .inl (gI g, 200, .inl (ar nd))), (aGw, .inl (gI g, 200, .inl (ar wk))), (aT, .inr (9, [.ref aTp, .ref aTt, .ref aTx, .ref aTy, .ref aE, .int (iI ld)]))]) u) t) A) (xX g A (fun (u : Unit) => True) (fun E : String => (E = "java/util/NoSuchElementException" ∧ (sfT ld kn = 1))) (fun (u : Unit) => ([(aR, .inr (11, [.ref aG, .ref aP, .ref aH, .ref aY, .ref aT, .ref aS, .ref aF, .ref aX, .int (iI pr), .int (iI tk), .int (iI tol), .int (iI hou)])), (aG, .inr (4, [.ref aGn, .ref aGw, .ref aGs, .int (iI kn)])), (aGn, .inl (gI g, 200, .inl (ar nd))), (aGw, .inl (gI g, 200, .inl (ar wk))), (aT, .inr (9, [.ref aTp, .ref aTt, .ref aTx, .ref aTy, .ref aE, .int (iI ld)]))] : va_W))) args s 1 6 A := ⟨_, rfl⟩
  have hP : va_P (gD g) vwCl [(aR, .inr (11, [.ref aG, .ref aP, .ref aH, .ref aY, .ref aT, .ref aS, .ref aF, .ref aX, .int (iI pr), .int (iI tk), .int (iI tol), .int (iI hou)])), (aG, .inr (4, [.ref aGn, .ref aGw, .ref aGs, .int (iI kn)])), (aGn, .inl (gI g, 200, .inl (ar nd))), (aGw, .inl (gI g, 200, .inl (ar wk))), (aT, .inr (9, [.ref aTp, .ref aTt, .ref aTx, .ref aTy, .ref aE, .int (iI ld)]))] H := by rw [hH]; exact hP
  have hS : va_S A s.heap H locs := by rw [hH, hlo]; exact hS
  have goal_ : W p l e { frames := 6, cells := 1, slots := 6, locals := 92 } s m args below meth c H locs 0 0 Q9 (F0 m 0 ls []) := by
    clear hH hlo
    refine lv_aload_n hx hb dX8_slurryFor_0 rfl (lv_at hl 0 rfl) ?_
    refine va_get (D := gD g) (ci := 11) (v := .ref aG) (C := RX8) (T := TX8) (N := 12) hx hb hts hin8 hown hK hP 0 rfl rfl 0 (by decide) (hts (.fieldLink RX8 10 "TunnelRing" "ground" "LTunnelRing$Ground;") (List.mem_of_getElem? (i := 3) rfl)) (fun _ h9 => h9) rfl dX8_slurryFor_1 ?_
    refine lv_aload_n hx hb dX8_slurryFor_4 rfl (lv_at hl 0 rfl) ?_
    refine va_get (D := gD g) (ci := 11) (v := .ref aT) (C := RX8) (T := TX8) (N := 12) hx hb hts hin8 hown hK hP 0 rfl rfl 4 (by decide) (hts (.fieldLink RX8 40 "TunnelRing" "tube" "LTunnelRing$Tube;") (List.mem_of_getElem? (i := 4) rfl)) (fun _ h9 => h9) rfl dX8_slurryFor_5 ?_
    refine va_get (D := gD g) (ci := 9) (v := .int (iI ld)) (C := RX6) (T := TX6) (N := 6) hx hb hts hin6 hown hK hP 4 rfl rfl 5 (by decide) (hts (.fieldLink RX8 178 "TunnelRing$Tube" "laid" "I") (List.mem_of_getElem? (i := 5) rfl)) (fun _ h9 => h9) rfl dX8_slurryFor_8 ?_
    refine x_calli (S := Unit) (wc := [(aG, .inr (4, [.ref aGn, .ref aGw, .ref aGs, .int (iI kn)]))]) (wr := [(aR, .inr (11, [.ref aG, .ref aP, .ref aH, .ref aY, .ref aT, .ref aS, .ref aF, .ref aX, .int (iI pr), .int (iI tk), .int (iI tol), .int (iI hou)])), (aGn, .inl (gI g, 200, .inl (ar nd))), (aGw, .inl (gI g, 200, .inl (ar wk))), (aT, .inr (9, [.ref aTp, .ref aTt, .ref aTx, .ref aTy, .ref aE, .int (iI ld)]))]) hC hP hD hS hA [1] [0, 2, 3, 4] [0, 4, 1, 2, 3] rfl rfl (fun hpre => va_runV (As := [.int (iI ld)]) (rest := []) ⟨hx, hb, hml, hown, hts⟩ (c_X1_isKnown l g H.size aG aGn aGw aGs kn ld (by first | (first | assumption | omega | exact bnd_up (by assumption) (by omega) (by omega)) | fail "q8") (by first | (first | assumption | omega | exact bnd_up (by assumption) (by omega) (by omega)) | fail "q8")) (cwV 1 hts gX8_slurryFor_X1_isKnown rfl rfl rfl (by decide +kernel) ⟨Nat.le_of_ble_eq_true rfl, Nat.le_of_ble_eq_true rfl⟩) ⟨xB_blind, va_recv hK hP (ci := 4) (q0 := 1) rfl rfl, hpre _⟩ rfl rfl hl.1 rfl (lv_room (Nat.le_of_ble_eq_true rfl)) dX8_slurryFor_11 ⟨Nat.le_of_ble_eq_true rfl, Nat.le_of_ble_eq_true rfl⟩) (fun (u : Unit) => [(aR, .inr (11, [.ref aG, .ref aP, .ref aH, .ref aY, .ref aT, .ref aS, .ref aF, .ref aX, .int (iI pr), .int (iI tk), .int (iI tol), .int (iI hou)])), (aG, .inr (4, [.ref aGn, .ref aGw, .ref aGs, .int (iI kn)])), (aGn, .inl (gI g, 200, .inl (ar nd))), (aGw, .inl (gI g, 200, .inl (ar wk))), (aT, .inr (9, [.ref aTp, .ref aTt, .ref aTx, .ref aTy, .ref aE, .int (iI ld)]))]) rfl rfl (by decide) (fun _ => rfl) rfl (fun u v_1 H locs hv_1 pv_1 hP hD hS => ?_)
    have hP : va_P (gD g) vwCl [(aR, .inr (11, [.ref aG, .ref aP, .ref aH, .ref aY, .ref aT, .ref aS, .ref aF, .ref aX, .int (iI pr), .int (iI tk), .int (iI tol), .int (iI hou)])), (aG, .inr (4, [.ref aGn, .ref aGw, .ref aGs, .int (iI kn)])), (aGn, .inl (gI g, 200, .inl (ar nd))), (aGw, .inl (gI g, 200, .inl (ar wk))), (aT, .inr (9, [.ref aTp, .ref aTt, .ref aTx, .ref aTy, .ref aE, .int (iI ld)]))] H := hP
    have hD : va_D A [(aR, .inr (11, [.ref aG, .ref aP, .ref aH, .ref aY, .ref aT, .ref aS, .ref aF, .ref aX, .int (iI pr), .int (iI tk), .int (iI tol), .int (iI hou)])), (aG, .inr (4, [.ref aGn, .ref aGw, .ref aGs, .int (iI kn)])), (aGn, .inl (gI g, 200, .inl (ar nd))), (aGw, .inl (gI g, 200, .inl (ar wk))), (aT, .inr (9, [.ref aTp, .ref aTt, .ref aTx, .ref aTy, .ref aE, .int (iI ld)]))] := hD
    have hv_1 : v_1 = bI (0 ≤ ld ∧ ld < kn) := hv_1
    refine x_top hv_1 ?_
    refine x_ifb_ne (tgt := 27) (P := 0 ≤ ld ∧ ld < kn) hx hb dX8_slurryFor_14 (by decide) (fun c_2 => ?_) (fun c_2 => ?_)
    · skip
      refine lv_aload_n hx hb dX8_slurryFor_27 rfl (lv_at hl 0 rfl) ?_
      refine lv_aload_n hx hb dX8_slurryFor_28 rfl (lv_at hl 0 rfl) ?_
      refine va_get (D := gD g) (ci := 11) (v := .ref aT) (C := RX8) (T := TX8) (N := 12) hx hb hts hin8 hown hK hP 0 rfl rfl 4 (by decide) (hts (.fieldLink RX8 40 "TunnelRing" "tube" "LTunnelRing$Tube;") (List.mem_of_getElem? (i := 4) rfl)) (fun _ h9 => h9) rfl dX8_slurryFor_29 ?_
      refine va_get (D := gD g) (ci := 9) (v := .int (iI ld)) (C := RX6) (T := TX6) (N := 6) hx hb hts hin6 hown hK hP 4 rfl rfl 5 (by decide) (hts (.fieldLink RX8 178 "TunnelRing$Tube" "laid" "I") (List.mem_of_getElem? (i := 5) rfl)) (fun _ h9 => h9) rfl dX8_slurryFor_32 ?_
      refine x_calli (S := Unit) (wc := [(aR, .inr (11, [.ref aG, .ref aP, .ref aH, .ref aY, .ref aT, .ref aS, .ref aF, .ref aX, .int (iI pr), .int (iI tk), .int (iI tol), .int (iI hou)])), (aG, .inr (4, [.ref aGn, .ref aGw, .ref aGs, .int (iI kn)])), (aGn, .inl (gI g, 200, .inl (ar nd))), (aGw, .inl (gI g, 200, .inl (ar wk)))]) (wr := [(aT, .inr (9, [.ref aTp, .ref aTt, .ref aTx, .ref aTy, .ref aE, .int (iI ld)]))]) hC hP hD hS hA [0, 1, 2, 3] [4] [1, 2, 3, 4, 0] rfl rfl (fun hpre => va_runV (As := [.int (iI ld)]) (rest := []) ⟨hx, hb, hml, hown, hts⟩ (c_X8_slurryTaken l g H.size aR aG aP aH aY aT aS aF aX aGn aGw aGs pr tk tol hou kn ld nd wk (by first | (first | assumption | omega | exact bnd_up (by assumption) (by omega) (by omega)) | fail "q8") (by first | (first | assumption | omega | exact bnd_up (by assumption) (by omega) (by omega)) | fail "q8") (by first | (first | assumption | omega | exact bnd_up (by assumption) (by omega) (by omega)) | fail "q8") (by first | (first | assumption | omega | exact bnd_up (by assumption) (by omega) (by omega)) | fail "q8") (by first | (first | assumption | omega | exact bnd_up (by assumption) (by omega) (by omega)) | fail "q8")) (cwV 1 hts gX8_slurryFor_X8_slurryTaken rfl rfl rfl (by decide +kernel) ⟨Nat.le_of_ble_eq_true rfl, Nat.le_of_ble_eq_true rfl⟩) ⟨xB_blind, va_recv hK hP (ci := 11) (q0 := 0) rfl rfl, hpre _⟩ rfl rfl hl.1 rfl (lv_room (Nat.le_of_ble_eq_true rfl)) dX8_slurryFor_35 ⟨Nat.le_of_ble_eq_true rfl, Nat.le_of_ble_eq_true rfl⟩) (fun (u : Unit) => [(aR, .inr (11, [.ref aG, .ref aP, .ref aH, .ref aY, .ref aT, .ref aS, .ref aF, .ref aX, .int (iI pr), .int (iI tk), .int (iI tol), .int (iI hou)])), (aG, .inr (4, [.ref aGn, .ref aGw, .ref aGs, .int (iI kn)])), (aGn, .inl (gI g, 200, .inl (ar nd))), (aGw, .inl (gI g, 200, .inl (ar wk))), (aT, .inr (9, [.ref aTp, .ref aTt, .ref aTx, .ref aTy, .ref aE, .int (iI ld)]))]) rfl rfl (by decide) (fun _ => rfl) rfl (fun u v_3 H locs hv_3 pv_3 hP hD hS => ?_)
      have hP : va_P (gD g) vwCl [(aR, .inr (11, [.ref aG, .ref aP, .ref aH, .ref aY, .ref aT, .ref aS, .ref aF, .ref aX, .int (iI pr), .int (iI tk), .int (iI tol), .int (iI hou)])), (aG, .inr (4, [.ref aGn, .ref aGw, .ref aGs, .int (iI kn)])), (aGn, .inl (gI g, 200, .inl (ar nd))), (aGw, .inl (gI g, 200, .inl (ar wk))), (aT, .inr (9, [.ref aTp, .ref aTt, .ref aTx, .ref aTy, .ref aE, .int (iI ld)]))] H := hP
      have hD : va_D A [(aR, .inr (11, [.ref aG, .ref aP, .ref aH, .ref aY, .ref aT, .ref aS, .ref aF, .ref aX, .int (iI pr), .int (iI tk), .int (iI tol), .int (iI hou)])), (aG, .inr (4, [.ref aGn, .ref aGw, .ref aGs, .int (iI kn)])), (aGn, .inl (gI g, 200, .inl (ar nd))), (aGw, .inl (gI g, 200, .inl (ar wk))), (aT, .inr (9, [.ref aTp, .ref aTt, .ref aTx, .ref aTy, .ref aE, .int (iI ld)]))] := hD
      have hv_3 : v_3 = 10 + gt0 kn wk ld + mx 0 (pr - (gt0 kn nd ld + 20)) := hv_3
      have pv_3 : 10 ≤ v_3 ∧ v_3 ≤ 200 := by first | exact pv_3 | (rw [hv_3]; exact pv_3)
      rw [hQ9]
      exact vx_ret (x_iret hx hb hr hlocks hP hD hS (S := Unit) rfl dX8_slurryFor_38 () (by
          first
          | (
             subst_vars
             unfold takF
             rw [gt0_in (by omega), gt0_in (by omega), Int.sub_sub])
          | fail "q9") ⟨(by
          first
          | (
             unfold sfT
             omega)
          | fail "q9"), trivial⟩ rfl (Nat.le_of_ble_eq_true rfl) (Nat.le_of_ble_eq_true rfl))
    · skip
      rw [hQ9]
      exact x_throwN hx hb hflags hown (by decide +kernel) (by decide +kernel) (hts (.classLink RX8 142 "java/util/NoSuchElementException") (List.mem_of_getElem? (i := 1) rfl)) (hts (.initialized "java/util/NoSuchElementException") (List.mem_of_getElem? (i := 2) rfl)) (hC.2.2.2.2.2.1 _ (List.mem_of_getElem? (i := 7) rfl)) (vx_hat (B := [.castable "java/util/NoSuchElementException" "java/util/NoSuchElementException", .declares (Bundle.initS "java/lang/RuntimeException"), .declares (Bundle.initS "java/lang/Exception"), .declares (Bundle.initS "java/lang/Throwable")]) (fun w h => hts w (List.mem_cons_of_mem _ (List.mem_append_left _ (List.mem_append_right _ h)))) (by decide +kernel) (vx_c (va_Nw.use rfl (hC.2.2.2.2.2.2.2.2.2.2.1 "java/util/NoSuchElementException" (List.mem_of_getElem? (i := 3) rfl))) (vx_c (va_Nw.use rfl (hC.2.2.2.2.2.2.2.2.2.2.2.1 "java/lang/RuntimeException" (List.mem_of_getElem? (i := 0) rfl))) (vx_c (va_Nw.use rfl (hC.2.2.2.2.2.2.2.2.2.2.2.1 "java/lang/Exception" (List.mem_of_getElem? (i := 1) rfl))) (vx_c (va_Nw.use rfl (hC.2.2.2.2.2.2.2.2.2.2.2.1 "java/lang/Throwable" (List.mem_of_getElem? (i := 2) rfl))) vx_n))))) (by decide +kernel) hC hP hD hS (hl.1.trans hml.symm) dX8_slurryFor_17 dX8_slurryFor_20 dX8_slurryFor_21 dX8_slurryFor_23 dX8_slurryFor_26 hout (Nat.le_of_ble_eq_true rfl) (Nat.le_of_ble_eq_true rfl) (Nat.le_of_ble_eq_true rfl) (Nat.le_of_ble_eq_true rfl) hlocks () trivial ⟨rfl, (by
          first
          | (
             unfold sfT
             omega)
          | fail "q9")⟩ rfl (Nat.le_of_ble_eq_true rfl) (Nat.le_of_ble_eq_true rfl)
  rw [hH, hlo, hQ9] at goal_
  exact goal_

set_option maxHeartbeats 4000000 in
set_option maxRecDepth 100000 in
theorem c_X8_sinkWhileLaying (l : Launch) (g : xg) (sz : Nat) (aR aG aP aH aY aT aS aF aX aGn aGw aGs : Nat) (pr tk tol hou kn rg : Int) (nd wk sk : Int → Int) (hkn : 0 ≤ kn ∧ kn ≤ 200) (hpr : 0 ≤ pr ∧ pr ≤ 100) (hb_nd : bnd nd 0 100) (hb_wk : bnd wk 0 20) (hrg : 0 ≤ rg ∧ rg ≤ 200) : Met l yX8_sinkWhileLaying wsX8_sinkWhileLaying { frames := 3, cells := 0, slots := 0, locals := 64 } (va_Pc [.ref aR, .int (iI rg)] (xB g [(aR, .inr (11, [.ref aG, .ref aP, .ref aH, .ref aY, .ref aT, .ref aS, .ref aF, .ref aX, .int (iI pr), .int (iI tk), .int (iI tol), .int (iI hou)])), (aG, .inr (4, [.ref aGn, .ref aGw, .ref aGs, .int (iI kn)])), (aGn, .inl (gI g, 200, .inl (ar nd))), (aGw, .inl (gI g, 200, .inl (ar wk))), (aGs, .inl (gI g, 200, .inl (ar sk)))] sz)) (va_Qv (fun (u : Unit) => True) (fun u t => xE g (va_A [(aR, .inr (11, [.ref aG, .ref aP, .ref aH, .ref aY, .ref aT, .ref aS, .ref aF, .ref aX, .int (iI pr), .int (iI tk), .int (iI tol), .int (iI hou)])), (aG, .inr (4, [.ref aGn, .ref aGw, .ref aGs, .int (iI kn)])), (aGn, .inl (gI g, 200, .inl (ar nd))), (aGw, .inl (gI g, 200, .inl (ar wk))), (aGs, .inl (gI g, 200, .inl (ar sk)))] sz) ((fun (u : Unit) => [(aR, .inr (11, [.ref aG, .ref aP, .ref aH, .ref aY, .ref aT, .ref aS, .ref aF, .ref aX, .int (iI pr), .int (iI tk), .int (iI tol), .int (iI hou)])), (aG, .inr (4, [.ref aGn, .ref aGw, .ref aGs, .int (iI kn)])), (aGn, .inl (gI g, 200, .inl (ar nd))), (aGw, .inl (gI g, 200, .inl (ar wk))), (aGs, .inl (gI g, 200, .inl (ar (sinkF kn (sinkF kn (sinkF kn sk rg (mx 0 (gt0 kn nd rg - pr) * gt0 kn wk rg / 10)) (rg - 1) ((mx 0 (gt0 kn nd rg - pr) * gt0 kn wk rg / 10) / 2)) (rg + 1) ((mx 0 (gt0 kn nd rg - pr) * gt0 kn wk rg / 10) / 2)))))]) u) t) (va_A [(aR, .inr (11, [.ref aG, .ref aP, .ref aH, .ref aY, .ref aT, .ref aS, .ref aF, .ref aX, .int (iI pr), .int (iI tk), .int (iI tol), .int (iI hou)])), (aG, .inr (4, [.ref aGn, .ref aGw, .ref aGs, .int (iI kn)])), (aGn, .inl (gI g, 200, .inl (ar nd))), (aGw, .inl (gI g, 200, .inl (ar wk))), (aGs, .inl (gI g, 200, .inl (ar sk)))] sz)) 0 0 (va_A [(aR, .inr (11, [.ref aG, .ref aP, .ref aH, .ref aY, .ref aT, .ref aS, .ref aF, .ref aX, .int (iI pr), .int (iI tk), .int (iI tol), .int (iI hou)])), (aG, .inr (4, [.ref aGn, .ref aGw, .ref aGs, .int (iI kn)])), (aGn, .inl (gI g, 200, .inl (ar nd))), (aGw, .inl (gI g, 200, .inl (ar wk))), (aGs, .inl (gI g, 200, .inl (ar sk)))] sz) := by
  refine x_enter (y := yX8_sinkWhileLaying) (ws := wsX8_sinkWhileLaying) (g := g) (sz := sz) (av := [.ref aR, .int (iI rg)]) (WS := [(aR, .inr (11, [.ref aG, .ref aP, .ref aH, .ref aY, .ref aT, .ref aS, .ref aF, .ref aX, .int (iI pr), .int (iI tk), .int (iI tol), .int (iI hou)])), (aG, .inr (4, [.ref aGn, .ref aGw, .ref aGs, .int (iI kn)])), (aGn, .inl (gI g, 200, .inl (ar nd))), (aGw, .inl (gI g, 200, .inl (ar wk))), (aGs, .inl (gI g, 200, .inl (ar sk)))]) (cc := cX8_sinkWhileLaying) (maxL := 3) (ret := none) (Qc := (fun A => (va_Qv (fun (u : Unit) => True) (fun u t => xE g A ((fun (u : Unit) => [(aR, .inr (11, [.ref aG, .ref aP, .ref aH, .ref aY, .ref aT, .ref aS, .ref aF, .ref aX, .int (iI pr), .int (iI tk), .int (iI tol), .int (iI hou)])), (aG, .inr (4, [.ref aGn, .ref aGw, .ref aGs, .int (iI kn)])), (aGn, .inl (gI g, 200, .inl (ar nd))), (aGw, .inl (gI g, 200, .inl (ar wk))), (aGs, .inl (gI g, 200, .inl (ar (sinkF kn (sinkF kn (sinkF kn sk rg (mx 0 (gt0 kn nd rg - pr) * gt0 kn wk rg / 10)) (rg - 1) ((mx 0 (gt0 kn nd rg - pr) * gt0 kn wk rg / 10) / 2)) (rg + 1) ((mx 0 (gt0 kn nd rg - pr) * gt0 kn wk rg / 10) / 2)))))]) u) t) A))) (by decide) rfl (Nat.le_of_ble_eq_true rfl) ?_
  intro p e s m args below meth c A ls hx hb hr hml hown hts hlocks hname hC hP hD hS hA hl
  have hK := hC.1
  have hown : s.vm.findClass RX8 = some m.cls := hown
  have hin8 : ∀ w ∈ u_ws RX8 TX8 12, w ∈ wsX8_sinkWhileLaying := by decide +kernel
  have hl : lv_has ls 3 [(0, .ref aR), (1, .int (iI rg))] := hl
  obtain ⟨H, hH⟩ : ∃ z, z = s.heap := ⟨_, rfl⟩
  obtain ⟨locs, hlo⟩ : ∃ z : List Loc, z = [] := ⟨_, rfl⟩
  obtain ⟨Q9, hQ9⟩ : ∃ z, z = MQ below (va_Qv (fun (u : Unit) => True) (fun u t => xE g A ((fun (u : Unit) => [(aR, .inr (11, [.ref aG, .ref aP, .ref aH, .ref aY, .ref aT, .ref aS, .ref aF, .ref aX, .int (iI pr), .int (iI tk), .int (iI tol), .int (iI hou)])), (aG, .inr (4, [.ref aGn, .ref aGw, .ref aGs, .int (iI kn)])), (aGn, .inl (gI g, 200, .inl (ar nd))), (aGw, .inl (gI g, 200, .inl (ar wk))), (aGs, .inl (gI g, 200, .inl (ar (sinkF kn (sinkF kn (sinkF kn sk rg (mx 0 (gt0 kn nd rg - pr) * gt0 kn wk rg / 10)) (rg - 1) ((mx 0 (gt0 kn nd rg - pr) * gt0 kn wk rg / 10) / 2)) (rg + 1) ((mx 0 (gt0 kn nd rg - pr) * gt0 kn wk rg / 10) / 2)))))]) u) t) A) args s 0 0 A := ⟨_, rfl⟩
  have hP : va_P (gD g) vwCl [(aR, .inr (11, [.ref aG, .ref aP, .ref aH, .ref aY, .ref aT, .ref aS, .ref aF, .ref aX, .int (iI pr), .int (iI tk), .int (iI tol), .int (iI hou)])), (aG, .inr (4, [.ref aGn, .ref aGw, .ref aGs, .int (iI kn)])), (aGn, .inl (gI g, 200, .inl (ar nd))), (aGw, .inl (gI g, 200, .inl (ar wk))), (aGs, .inl (gI g, 200, .inl (ar sk)))] H := by rw [hH]; exact hP
  have hS : va_S A s.heap H locs := by rw [hH, hlo]; exact hS
  have goal_ : W p l e { frames := 3, cells := 0, slots := 0, locals := 64 } s m args below meth c H locs 0 0 Q9 (F0 m 0 ls []) := by
    clear hH hlo
    have m0 := mx_r 0 (gt0 kn nd rg - pr) rfl
    have m1 := gt0_r (k := kn) (i := rg) hb_nd (by omega) (by omega)
    have m2 := gt0_r (k := kn) (i := rg) hb_wk (by omega) (by omega)
    have m3 := mulb0 (A := 100) (B := 20) (a := mx 0 (gt0 kn nd rg - pr)) (b := gt0 kn wk rg) (by omega) (by omega)
    refine lv_aload_n hx hb dX8_sinkWhileLaying_0 rfl (lv_at hl 0 rfl) ?_
    refine va_get (D := gD g) (ci := 11) (v := .ref aG) (C := RX8) (T := TX8) (N := 12) hx hb hts hin8 hown hK hP 0 rfl rfl 0 (by decide) (hts (.fieldLink RX8 10 "TunnelRing" "ground" "LTunnelRing$Ground;") (List.mem_of_getElem? (i := 1) rfl)) (fun _ h9 => h9) rfl dX8_sinkWhileLaying_1 ?_
    refine lv_iload_n hx hb dX8_sinkWhileLaying_4 rfl (lv_at hl 1 rfl) ?_
    refine lv_aload_n hx hb dX8_sinkWhileLaying_5 rfl (lv_at hl 0 rfl) ?_
    refine va_get (D := gD g) (ci := 11) (v := .int (iI pr)) (C := RX8) (T := TX8) (N := 12) hx hb hts hin8 hown hK hP 0 rfl rfl 8 (by decide) (hts (.fieldLink RX8 65 "TunnelRing" "pressure" "I") (List.mem_of_getElem? (i := 2) rfl)) (fun _ h9 => h9) rfl dX8_sinkWhileLaying_6 ?_
    refine x_calli (S := Unit) (wc := [(aG, .inr (4, [.ref aGn, .ref aGw, .ref aGs, .int (iI kn)])), (aGn, .inl (gI g, 200, .inl (ar nd)))]) (wr := [(aR, .inr (11, [.ref aG, .ref aP, .ref aH, .ref aY, .ref aT, .ref aS, .ref aF, .ref aX, .int (iI pr), .int (iI tk), .int (iI tol), .int (iI hou)])), (aGw, .inl (gI g, 200, .inl (ar wk))), (aGs, .inl (gI g, 200, .inl (ar sk)))]) hC hP hD hS hA [1, 2] [0, 3, 4] [0, 3, 4, 1, 2] rfl rfl (fun hpre => va_runV (As := [.int (iI rg), .int (iI pr)]) (rest := []) ⟨hx, hb, hml, hown, hts⟩ (c_X1_missing l g H.size aG aGn aGw aGs kn rg pr nd (by first | (first | assumption | omega | exact bnd_up (by assumption) (by omega) (by omega)) | fail "q8") (by first | (first | assumption | omega | exact bnd_up (by assumption) (by omega) (by omega)) | fail "q8") (by first | (first | assumption | omega | exact bnd_up (by assumption) (by omega) (by omega)) | fail "q8") (by first | (first | assumption | omega | exact bnd_up (by assumption) (by omega) (by omega)) | fail "q8")) (cwV 2 hts gX8_sinkWhileLaying_X1_missing rfl rfl rfl (by decide +kernel) ⟨Nat.le_of_ble_eq_true rfl, Nat.le_of_ble_eq_true rfl⟩) ⟨xB_blind, va_recv hK hP (ci := 4) (q0 := 1) rfl rfl, hpre _⟩ rfl rfl hl.1 rfl (lv_room (Nat.le_of_ble_eq_true rfl)) dX8_sinkWhileLaying_9 ⟨Nat.le_of_ble_eq_true rfl, Nat.le_of_ble_eq_true rfl⟩) (fun (u : Unit) => [(aR, .inr (11, [.ref aG, .ref aP, .ref aH, .ref aY, .ref aT, .ref aS, .ref aF, .ref aX, .int (iI pr), .int (iI tk), .int (iI tol), .int (iI hou)])), (aG, .inr (4, [.ref aGn, .ref aGw, .ref aGs, .int (iI kn)])), (aGn, .inl (gI g, 200, .inl (ar nd))), (aGw, .inl (gI g, 200, .inl (ar wk))), (aGs, .inl (gI g, 200, .inl (ar sk)))]) rfl rfl (by decide) (fun _ => rfl) rfl (fun u v_1 H locs hv_1 pv_1 hP hD hS => ?_)
    have hP : va_P (gD g) vwCl [(aR, .inr (11, [.ref aG, .ref aP, .ref aH, .ref aY, .ref aT, .ref aS, .ref aF, .ref aX, .int (iI pr), .int (iI tk), .int (iI tol), .int (iI hou)])), (aG, .inr (4, [.ref aGn, .ref aGw, .ref aGs, .int (iI kn)])), (aGn, .inl (gI g, 200, .inl (ar nd))), (aGw, .inl (gI g, 200, .inl (ar wk))), (aGs, .inl (gI g, 200, .inl (ar sk)))] H := hP
    have hD : va_D A [(aR, .inr (11, [.ref aG, .ref aP, .ref aH, .ref aY, .ref aT, .ref aS, .ref aF, .ref aX, .int (iI pr), .int (iI tk), .int (iI tol), .int (iI hou)])), (aG, .inr (4, [.ref aGn, .ref aGw, .ref aGs, .int (iI kn)])), (aGn, .inl (gI g, 200, .inl (ar nd))), (aGw, .inl (gI g, 200, .inl (ar wk))), (aGs, .inl (gI g, 200, .inl (ar sk)))] := hD
    have hv_1 : v_1 = mx 0 (gt0 kn nd rg - pr) := hv_1
    have pv_1 : 0 ≤ v_1 ∧ v_1 ≤ 100 := by first | exact pv_1 | (rw [hv_1]; exact pv_1)
    refine lv_aload_n hx hb dX8_sinkWhileLaying_12 rfl (lv_at hl 0 rfl) ?_
    refine va_get (D := gD g) (ci := 11) (v := .ref aG) (C := RX8) (T := TX8) (N := 12) hx hb hts hin8 hown hK hP 0 rfl rfl 0 (by decide) (hts (.fieldLink RX8 10 "TunnelRing" "ground" "LTunnelRing$Ground;") (List.mem_of_getElem? (i := 1) rfl)) (fun _ h9 => h9) rfl dX8_sinkWhileLaying_13 ?_
    refine lv_iload_n hx hb dX8_sinkWhileLaying_16 rfl (lv_at hl 1 rfl) ?_
    refine x_calli (S := Unit) (wc := [(aG, .inr (4, [.ref aGn, .ref aGw, .ref aGs, .int (iI kn)])), (aGw, .inl (gI g, 200, .inl (ar wk)))]) (wr := [(aR, .inr (11, [.ref aG, .ref aP, .ref aH, .ref aY, .ref aT, .ref aS, .ref aF, .ref aX, .int (iI pr), .int (iI tk), .int (iI tol), .int (iI hou)])), (aGn, .inl (gI g, 200, .inl (ar nd))), (aGs, .inl (gI g, 200, .inl (ar sk)))]) hC hP hD hS hA [1, 3] [0, 2, 4] [0, 3, 1, 4, 2] rfl rfl (fun hpre => va_runV (As := [.int (iI rg)]) (rest := [.int (iI v_1)]) ⟨hx, hb, hml, hown, hts⟩ (c_X1_weaknessOf l g H.size aG aGn aGw aGs kn rg wk (by first | (first | assumption | omega | exact bnd_up (by assumption) (by omega) (by omega)) | fail "q8") (by first | (first | assumption | omega | exact bnd_up (by assumption) (by omega) (by omega)) | fail "q8") (by first | (first | assumption | omega | exact bnd_up (by assumption) (by omega) (by omega)) | fail "q8")) (cwV 1 hts gX8_sinkWhileLaying_X1_weaknessOf rfl rfl rfl (by decide +kernel) ⟨Nat.le_of_ble_eq_true rfl, Nat.le_of_ble_eq_true rfl⟩) ⟨xB_blind, va_recv hK hP (ci := 4) (q0 := 1) rfl rfl, hpre _⟩ rfl rfl hl.1 rfl (lv_room (Nat.le_of_ble_eq_true rfl)) dX8_sinkWhileLaying_17 ⟨Nat.le_of_ble_eq_true rfl, Nat.le_of_ble_eq_true rfl⟩) (fun (u : Unit) => [(aR, .inr (11, [.ref aG, .ref aP, .ref aH, .ref aY, .ref aT, .ref aS, .ref aF, .ref aX, .int (iI pr), .int (iI tk), .int (iI tol), .int (iI hou)])), (aG, .inr (4, [.ref aGn, .ref aGw, .ref aGs, .int (iI kn)])), (aGn, .inl (gI g, 200, .inl (ar nd))), (aGw, .inl (gI g, 200, .inl (ar wk))), (aGs, .inl (gI g, 200, .inl (ar sk)))]) rfl rfl (by decide) (fun _ => rfl) rfl (fun u v_2 H locs hv_2 pv_2 hP hD hS => ?_)
    have hP : va_P (gD g) vwCl [(aR, .inr (11, [.ref aG, .ref aP, .ref aH, .ref aY, .ref aT, .ref aS, .ref aF, .ref aX, .int (iI pr), .int (iI tk), .int (iI tol), .int (iI hou)])), (aG, .inr (4, [.ref aGn, .ref aGw, .ref aGs, .int (iI kn)])), (aGn, .inl (gI g, 200, .inl (ar nd))), (aGw, .inl (gI g, 200, .inl (ar wk))), (aGs, .inl (gI g, 200, .inl (ar sk)))] H := hP
    have hD : va_D A [(aR, .inr (11, [.ref aG, .ref aP, .ref aH, .ref aY, .ref aT, .ref aS, .ref aF, .ref aX, .int (iI pr), .int (iI tk), .int (iI tol), .int (iI hou)])), (aG, .inr (4, [.ref aGn, .ref aGw, .ref aGs, .int (iI kn)])), (aGn, .inl (gI g, 200, .inl (ar nd))), (aGw, .inl (gI g, 200, .inl (ar wk))), (aGs, .inl (gI g, 200, .inl (ar sk)))] := hD
    have hv_2 : v_2 = gt0 kn wk rg := hv_2
    have pv_2 : 0 ≤ v_2 ∧ v_2 ≤ 20 := by first | exact pv_2 | (rw [hv_2]; exact pv_2)
    refine x_imul hx hb dX8_sinkWhileLaying_20 ?_
    have m4 : 0 ≤ (v_1 * v_2) ∧ (v_1 * v_2) ≤ 2000 := by subst_vars; omega
    refine x_bipush hx hb dX8_sinkWhileLaying_21 (by decide) ?_
    refine x_idiv hx hb (by omega) (by omega) dX8_sinkWhileLaying_23 ?_
    obtain ⟨v_3, ev_3⟩ : ∃ z : Int, z = (v_1 * v_2) / 10 := ⟨_, rfl⟩
    refine x_top ev_3.symm ?_
    refine lv_istore_n (lv' := [(2, .int (iI v_3)), (0, .ref aR), (1, .int (iI rg))]) hx hb dX8_sinkWhileLaying_24 rfl hl (by decide) rfl (fun ls hl => ?_)
    refine lv_aload_n hx hb dX8_sinkWhileLaying_25 rfl (lv_at hl 1 rfl) ?_
    refine va_get (D := gD g) (ci := 11) (v := .ref aG) (C := RX8) (T := TX8) (N := 12) hx hb hts hin8 hown hK hP 0 rfl rfl 0 (by decide) (hts (.fieldLink RX8 10 "TunnelRing" "ground" "LTunnelRing$Ground;") (List.mem_of_getElem? (i := 1) rfl)) (fun _ h9 => h9) rfl dX8_sinkWhileLaying_26 ?_
    refine lv_iload_n hx hb dX8_sinkWhileLaying_29 rfl (lv_at hl 2 rfl) ?_
    refine lv_iload_n hx hb dX8_sinkWhileLaying_30 rfl (lv_at hl 0 rfl) ?_
    refine x_callv (S := Unit) (wc := [(aG, .inr (4, [.ref aGn, .ref aGw, .ref aGs, .int (iI kn)])), (aGs, .inl (gI g, 200, .inl (ar sk)))]) (wr := [(aR, .inr (11, [.ref aG, .ref aP, .ref aH, .ref aY, .ref aT, .ref aS, .ref aF, .ref aX, .int (iI pr), .int (iI tk), .int (iI tol), .int (iI hou)])), (aGn, .inl (gI g, 200, .inl (ar nd))), (aGw, .inl (gI g, 200, .inl (ar wk)))]) hC hP hD hS hA [1, 4] [0, 2, 3] [0, 3, 1, 2, 4] rfl rfl (fun hpre => va_runV (As := [.int (iI rg), .int (iI v_3)]) (rest := []) ⟨hx, hb, hml, hown, hts⟩ (c_X1_sink l g H.size aG aGn aGw aGs kn rg v_3 sk (by first | (first | assumption | omega | exact bnd_up (by assumption) (by omega) (by omega)) | fail "q8") (by first | (first | assumption | omega | exact bnd_up (by assumption) (by omega) (by omega)) | fail "q8")) (cwV 2 hts gX8_sinkWhileLaying_X1_sink rfl rfl rfl (by decide +kernel) ⟨Nat.le_of_ble_eq_true rfl, Nat.le_of_ble_eq_true rfl⟩) ⟨xB_blind, va_recv hK hP (ci := 4) (q0 := 1) rfl rfl, hpre _⟩ rfl rfl hl.1 rfl (lv_room (Nat.le_of_ble_eq_true rfl)) dX8_sinkWhileLaying_31 ⟨Nat.le_of_ble_eq_true rfl, Nat.le_of_ble_eq_true rfl⟩) (fun (u : Unit) => [(aR, .inr (11, [.ref aG, .ref aP, .ref aH, .ref aY, .ref aT, .ref aS, .ref aF, .ref aX, .int (iI pr), .int (iI tk), .int (iI tol), .int (iI hou)])), (aG, .inr (4, [.ref aGn, .ref aGw, .ref aGs, .int (iI kn)])), (aGn, .inl (gI g, 200, .inl (ar nd))), (aGw, .inl (gI g, 200, .inl (ar wk))), (aGs, .inl (gI g, 200, .inl (ar (sinkF kn sk rg v_3))))]) rfl rfl (by decide) (fun _ => rfl) rfl (fun u H locs hv_4 hP hD hS => ?_)
    have hP : va_P (gD g) vwCl [(aR, .inr (11, [.ref aG, .ref aP, .ref aH, .ref aY, .ref aT, .ref aS, .ref aF, .ref aX, .int (iI pr), .int (iI tk), .int (iI tol), .int (iI hou)])), (aG, .inr (4, [.ref aGn, .ref aGw, .ref aGs, .int (iI kn)])), (aGn, .inl (gI g, 200, .inl (ar nd))), (aGw, .inl (gI g, 200, .inl (ar wk))), (aGs, .inl (gI g, 200, .inl (ar (sinkF kn sk rg v_3))))] H := hP
    have hD : va_D A [(aR, .inr (11, [.ref aG, .ref aP, .ref aH, .ref aY, .ref aT, .ref aS, .ref aF, .ref aX, .int (iI pr), .int (iI tk), .int (iI tol), .int (iI hou)])), (aG, .inr (4, [.ref aGn, .ref aGw, .ref aGs, .int (iI kn)])), (aGn, .inl (gI g, 200, .inl (ar nd))), (aGw, .inl (gI g, 200, .inl (ar wk))), (aGs, .inl (gI g, 200, .inl (ar (sinkF kn sk rg v_3))))] := hD
    refine lv_aload_n hx hb dX8_sinkWhileLaying_34 rfl (lv_at hl 1 rfl) ?_
    refine va_get (D := gD g) (ci := 11) (v := .ref aG) (C := RX8) (T := TX8) (N := 12) hx hb hts hin8 hown hK hP 0 rfl rfl 0 (by decide) (hts (.fieldLink RX8 10 "TunnelRing" "ground" "LTunnelRing$Ground;") (List.mem_of_getElem? (i := 1) rfl)) (fun _ h9 => h9) rfl dX8_sinkWhileLaying_35 ?_
    refine lv_iload_n hx hb dX8_sinkWhileLaying_38 rfl (lv_at hl 2 rfl) ?_
    refine x_iconst hx hb dX8_sinkWhileLaying_39 ?_
    refine x_isub hx hb dX8_sinkWhileLaying_40 ?_
    refine lv_iload_n hx hb dX8_sinkWhileLaying_41 rfl (lv_at hl 0 rfl) ?_
    refine x_iconst hx hb dX8_sinkWhileLaying_42 ?_
    refine x_idiv hx hb (by omega) (by omega) dX8_sinkWhileLaying_43 ?_
    refine x_callv (S := Unit) (wc := [(aG, .inr (4, [.ref aGn, .ref aGw, .ref aGs, .int (iI kn)])), (aGs, .inl (gI g, 200, .inl (ar (sinkF kn sk rg v_3))))]) (wr := [(aR, .inr (11, [.ref aG, .ref aP, .ref aH, .ref aY, .ref aT, .ref aS, .ref aF, .ref aX, .int (iI pr), .int (iI tk), .int (iI tol), .int (iI hou)])), (aGn, .inl (gI g, 200, .inl (ar nd))), (aGw, .inl (gI g, 200, .inl (ar wk)))]) hC hP hD hS hA [1, 4] [0, 2, 3] [0, 3, 1, 2, 4] rfl rfl (fun hpre => va_runV (As := [.int (iI (rg - 1)), .int (iI (v_3 / 2))]) (rest := []) ⟨hx, hb, hml, hown, hts⟩ (c_X1_sink l g H.size aG aGn aGw aGs kn (rg - 1) (v_3 / 2) (sinkF kn sk rg v_3) (by first | (first | assumption | omega | exact bnd_up (by assumption) (by omega) (by omega)) | fail "q8") (by first | (first | assumption | omega | exact bnd_up (by assumption) (by omega) (by omega)) | fail "q8")) (cwV 2 hts gX8_sinkWhileLaying_X1_sink rfl rfl rfl (by decide +kernel) ⟨Nat.le_of_ble_eq_true rfl, Nat.le_of_ble_eq_true rfl⟩) ⟨xB_blind, va_recv hK hP (ci := 4) (q0 := 1) rfl rfl, hpre _⟩ rfl rfl hl.1 rfl (lv_room (Nat.le_of_ble_eq_true rfl)) dX8_sinkWhileLaying_44 ⟨Nat.le_of_ble_eq_true rfl, Nat.le_of_ble_eq_true rfl⟩) (fun (u : Unit) => [(aR, .inr (11, [.ref aG, .ref aP, .ref aH, .ref aY, .ref aT, .ref aS, .ref aF, .ref aX, .int (iI pr), .int (iI tk), .int (iI tol), .int (iI hou)])), (aG, .inr (4, [.ref aGn, .ref aGw, .ref aGs, .int (iI kn)])), (aGn, .inl (gI g, 200, .inl (ar nd))), (aGw, .inl (gI g, 200, .inl (ar wk))), (aGs, .inl (gI g, 200, .inl (ar (sinkF kn (sinkF kn sk rg v_3) (rg - 1) (v_3 / 2)))))]) rfl rfl (by decide) (fun _ => rfl) rfl (fun u H locs hv_5 hP hD hS => ?_)
    have hP : va_P (gD g) vwCl [(aR, .inr (11, [.ref aG, .ref aP, .ref aH, .ref aY, .ref aT, .ref aS, .ref aF, .ref aX, .int (iI pr), .int (iI tk), .int (iI tol), .int (iI hou)])), (aG, .inr (4, [.ref aGn, .ref aGw, .ref aGs, .int (iI kn)])), (aGn, .inl (gI g, 200, .inl (ar nd))), (aGw, .inl (gI g, 200, .inl (ar wk))), (aGs, .inl (gI g, 200, .inl (ar (sinkF kn (sinkF kn sk rg v_3) (rg - 1) (v_3 / 2)))))] H := hP
    have hD : va_D A [(aR, .inr (11, [.ref aG, .ref aP, .ref aH, .ref aY, .ref aT, .ref aS, .ref aF, .ref aX, .int (iI pr), .int (iI tk), .int (iI tol), .int (iI hou)])), (aG, .inr (4, [.ref aGn, .ref aGw, .ref aGs, .int (iI kn)])), (aGn, .inl (gI g, 200, .inl (ar nd))), (aGw, .inl (gI g, 200, .inl (ar wk))), (aGs, .inl (gI g, 200, .inl (ar (sinkF kn (sinkF kn sk rg v_3) (rg - 1) (v_3 / 2)))))] := hD
    refine lv_aload_n hx hb dX8_sinkWhileLaying_47 rfl (lv_at hl 1 rfl) ?_
    refine va_get (D := gD g) (ci := 11) (v := .ref aG) (C := RX8) (T := TX8) (N := 12) hx hb hts hin8 hown hK hP 0 rfl rfl 0 (by decide) (hts (.fieldLink RX8 10 "TunnelRing" "ground" "LTunnelRing$Ground;") (List.mem_of_getElem? (i := 1) rfl)) (fun _ h9 => h9) rfl dX8_sinkWhileLaying_48 ?_
    refine lv_iload_n hx hb dX8_sinkWhileLaying_51 rfl (lv_at hl 2 rfl) ?_
    refine x_iconst hx hb dX8_sinkWhileLaying_52 ?_
    refine x_iadd hx hb dX8_sinkWhileLaying_53 ?_
    refine lv_iload_n hx hb dX8_sinkWhileLaying_54 rfl (lv_at hl 0 rfl) ?_
    refine x_iconst hx hb dX8_sinkWhileLaying_55 ?_
    refine x_idiv hx hb (by omega) (by omega) dX8_sinkWhileLaying_56 ?_
    refine x_callv (S := Unit) (wc := [(aG, .inr (4, [.ref aGn, .ref aGw, .ref aGs, .int (iI kn)])), (aGs, .inl (gI g, 200, .inl (ar (sinkF kn (sinkF kn sk rg v_3) (rg - 1) (v_3 / 2)))))]) (wr := [(aR, .inr (11, [.ref aG, .ref aP, .ref aH, .ref aY, .ref aT, .ref aS, .ref aF, .ref aX, .int (iI pr), .int (iI tk), .int (iI tol), .int (iI hou)])), (aGn, .inl (gI g, 200, .inl (ar nd))), (aGw, .inl (gI g, 200, .inl (ar wk)))]) hC hP hD hS hA [1, 4] [0, 2, 3] [0, 3, 1, 2, 4] rfl rfl (fun hpre => va_runV (As := [.int (iI (rg + 1)), .int (iI (v_3 / 2))]) (rest := []) ⟨hx, hb, hml, hown, hts⟩ (c_X1_sink l g H.size aG aGn aGw aGs kn (rg + 1) (v_3 / 2) (sinkF kn (sinkF kn sk rg v_3) (rg - 1) (v_3 / 2)) (by first | (first | assumption | omega | exact bnd_up (by assumption) (by omega) (by omega)) | fail "q8") (by first | (first | assumption | omega | exact bnd_up (by assumption) (by omega) (by omega)) | fail "q8")) (cwV 2 hts gX8_sinkWhileLaying_X1_sink rfl rfl rfl (by decide +kernel) ⟨Nat.le_of_ble_eq_true rfl, Nat.le_of_ble_eq_true rfl⟩) ⟨xB_blind, va_recv hK hP (ci := 4) (q0 := 1) rfl rfl, hpre _⟩ rfl rfl hl.1 rfl (lv_room (Nat.le_of_ble_eq_true rfl)) dX8_sinkWhileLaying_57 ⟨Nat.le_of_ble_eq_true rfl, Nat.le_of_ble_eq_true rfl⟩) (fun (u : Unit) => [(aR, .inr (11, [.ref aG, .ref aP, .ref aH, .ref aY, .ref aT, .ref aS, .ref aF, .ref aX, .int (iI pr), .int (iI tk), .int (iI tol), .int (iI hou)])), (aG, .inr (4, [.ref aGn, .ref aGw, .ref aGs, .int (iI kn)])), (aGn, .inl (gI g, 200, .inl (ar nd))), (aGw, .inl (gI g, 200, .inl (ar wk))), (aGs, .inl (gI g, 200, .inl (ar (sinkF kn (sinkF kn (sinkF kn sk rg v_3) (rg - 1) (v_3 / 2)) (rg + 1) (v_3 / 2)))))]) rfl rfl (by decide) (fun _ => rfl) rfl (fun u H locs hv_6 hP hD hS => ?_)
    have hP : va_P (gD g) vwCl [(aR, .inr (11, [.ref aG, .ref aP, .ref aH, .ref aY, .ref aT, .ref aS, .ref aF, .ref aX, .int (iI pr), .int (iI tk), .int (iI tol), .int (iI hou)])), (aG, .inr (4, [.ref aGn, .ref aGw, .ref aGs, .int (iI kn)])), (aGn, .inl (gI g, 200, .inl (ar nd))), (aGw, .inl (gI g, 200, .inl (ar wk))), (aGs, .inl (gI g, 200, .inl (ar (sinkF kn (sinkF kn (sinkF kn sk rg v_3) (rg - 1) (v_3 / 2)) (rg + 1) (v_3 / 2)))))] H := hP
    have hD : va_D A [(aR, .inr (11, [.ref aG, .ref aP, .ref aH, .ref aY, .ref aT, .ref aS, .ref aF, .ref aX, .int (iI pr), .int (iI tk), .int (iI tol), .int (iI hou)])), (aG, .inr (4, [.ref aGn, .ref aGw, .ref aGs, .int (iI kn)])), (aGn, .inl (gI g, 200, .inl (ar nd))), (aGw, .inl (gI g, 200, .inl (ar wk))), (aGs, .inl (gI g, 200, .inl (ar (sinkF kn (sinkF kn (sinkF kn sk rg v_3) (rg - 1) (v_3 / 2)) (rg + 1) (v_3 / 2)))))] := hD
    have q_7 : (sinkF kn (sinkF kn (sinkF kn sk rg (mx 0 (gt0 kn nd rg - pr) * gt0 kn wk rg / 10)) (rg - 1) ((mx 0 (gt0 kn nd rg - pr) * gt0 kn wk rg / 10) / 2)) (rg + 1) ((mx 0 (gt0 kn nd rg - pr) * gt0 kn wk rg / 10) / 2)) = (sinkF kn (sinkF kn (sinkF kn sk rg v_3) (rg - 1) (v_3 / 2)) (rg + 1) (v_3 / 2)) := by
      first
      | (
         subst_vars
         rfl)
      | fail "q9"
    have hw_8 := (congrArg (fun (z0 : Int → Int) => ([(aR, .inr (11, [.ref aG, .ref aP, .ref aH, .ref aY, .ref aT, .ref aS, .ref aF, .ref aX, .int (iI pr), .int (iI tk), .int (iI tol), .int (iI hou)])), (aG, .inr (4, [.ref aGn, .ref aGw, .ref aGs, .int (iI kn)])), (aGn, .inl (gI g, 200, .inl (ar nd))), (aGw, .inl (gI g, 200, .inl (ar wk))), (aGs, .inl (gI g, 200, .inl (ar z0)))] : va_W)) q_7.symm)
    rw [hQ9]
    exact x_vret hx hb hr hlocks hP hD hS (S := Unit) (Φ := _) (W1 := _) dX8_sinkWhileLaying_60 () trivial hw_8 (Nat.le_of_ble_eq_true rfl) (Nat.le_of_ble_eq_true rfl)
  rw [hH, hlo, hQ9] at goal_
  exact goal_

set_option maxHeartbeats 4000000 in
set_option maxRecDepth 100000 in
theorem c_X8_sinkWhileStanding (l : Launch) (g : xg) (sz : Nat) (aR aG aP aH aY aT aS aF aX aGn aGw aGs : Nat) (pr tk tol hou kn rg hrs : Int) (nd wk sk : Int → Int) (hkn : 0 ≤ kn ∧ kn ≤ 200) (hpr : 0 ≤ pr ∧ pr ≤ 100) (hb_nd : bnd nd 0 100) (hb_wk : bnd wk 0 20) (hrg : 0 ≤ rg ∧ rg ≤ 200) : Met l yX8_sinkWhileStanding wsX8_sinkWhileStanding { frames := 3, cells := 0, slots := 0, locals := 64 } (va_Pc [.ref aR, .int (iI rg), .int (iI hrs)] (xB g [(aR, .inr (11, [.ref aG, .ref aP, .ref aH, .ref aY, .ref aT, .ref aS, .ref aF, .ref aX, .int (iI pr), .int (iI tk), .int (iI tol), .int (iI hou)])), (aG, .inr (4, [.ref aGn, .ref aGw, .ref aGs, .int (iI kn)])), (aGn, .inl (gI g, 200, .inl (ar nd))), (aGw, .inl (gI g, 200, .inl (ar wk))), (aGs, .inl (gI g, 200, .inl (ar sk)))] sz)) (va_Qv (fun (u : Unit) => True) (fun u t => xE g (va_A [(aR, .inr (11, [.ref aG, .ref aP, .ref aH, .ref aY, .ref aT, .ref aS, .ref aF, .ref aX, .int (iI pr), .int (iI tk), .int (iI tol), .int (iI hou)])), (aG, .inr (4, [.ref aGn, .ref aGw, .ref aGs, .int (iI kn)])), (aGn, .inl (gI g, 200, .inl (ar nd))), (aGw, .inl (gI g, 200, .inl (ar wk))), (aGs, .inl (gI g, 200, .inl (ar sk)))] sz) ((fun (u : Unit) => [(aR, .inr (11, [.ref aG, .ref aP, .ref aH, .ref aY, .ref aT, .ref aS, .ref aF, .ref aX, .int (iI pr), .int (iI tk), .int (iI tol), .int (iI hou)])), (aG, .inr (4, [.ref aGn, .ref aGw, .ref aGs, .int (iI kn)])), (aGn, .inl (gI g, 200, .inl (ar nd))), (aGw, .inl (gI g, 200, .inl (ar wk))), (aGs, .inl (gI g, 200, .inl (ar (sinkF kn sk rg (hrs * (mx 0 (gt0 kn nd rg - pr) * gt0 kn wk rg / 50))))))]) u) t) (va_A [(aR, .inr (11, [.ref aG, .ref aP, .ref aH, .ref aY, .ref aT, .ref aS, .ref aF, .ref aX, .int (iI pr), .int (iI tk), .int (iI tol), .int (iI hou)])), (aG, .inr (4, [.ref aGn, .ref aGw, .ref aGs, .int (iI kn)])), (aGn, .inl (gI g, 200, .inl (ar nd))), (aGw, .inl (gI g, 200, .inl (ar wk))), (aGs, .inl (gI g, 200, .inl (ar sk)))] sz)) 0 0 (va_A [(aR, .inr (11, [.ref aG, .ref aP, .ref aH, .ref aY, .ref aT, .ref aS, .ref aF, .ref aX, .int (iI pr), .int (iI tk), .int (iI tol), .int (iI hou)])), (aG, .inr (4, [.ref aGn, .ref aGw, .ref aGs, .int (iI kn)])), (aGn, .inl (gI g, 200, .inl (ar nd))), (aGw, .inl (gI g, 200, .inl (ar wk))), (aGs, .inl (gI g, 200, .inl (ar sk)))] sz) := by
  refine x_enter (y := yX8_sinkWhileStanding) (ws := wsX8_sinkWhileStanding) (g := g) (sz := sz) (av := [.ref aR, .int (iI rg), .int (iI hrs)]) (WS := [(aR, .inr (11, [.ref aG, .ref aP, .ref aH, .ref aY, .ref aT, .ref aS, .ref aF, .ref aX, .int (iI pr), .int (iI tk), .int (iI tol), .int (iI hou)])), (aG, .inr (4, [.ref aGn, .ref aGw, .ref aGs, .int (iI kn)])), (aGn, .inl (gI g, 200, .inl (ar nd))), (aGw, .inl (gI g, 200, .inl (ar wk))), (aGs, .inl (gI g, 200, .inl (ar sk)))]) (cc := cX8_sinkWhileStanding) (maxL := 4) (ret := none) (Qc := (fun A => (va_Qv (fun (u : Unit) => True) (fun u t => xE g A ((fun (u : Unit) => [(aR, .inr (11, [.ref aG, .ref aP, .ref aH, .ref aY, .ref aT, .ref aS, .ref aF, .ref aX, .int (iI pr), .int (iI tk), .int (iI tol), .int (iI hou)])), (aG, .inr (4, [.ref aGn, .ref aGw, .ref aGs, .int (iI kn)])), (aGn, .inl (gI g, 200, .inl (ar nd))), (aGw, .inl (gI g, 200, .inl (ar wk))), (aGs, .inl (gI g, 200, .inl (ar (sinkF kn sk rg (hrs * (mx 0 (gt0 kn nd rg - pr) * gt0 kn wk rg / 50))))))]) u) t) A))) (by decide) rfl (Nat.le_of_ble_eq_true rfl) ?_
  intro p e s m args below meth c A ls hx hb hr hml hown hts hlocks hname hC hP hD hS hA hl
  have hK := hC.1
  have hown : s.vm.findClass RX8 = some m.cls := hown
  have hin8 : ∀ w ∈ u_ws RX8 TX8 12, w ∈ wsX8_sinkWhileStanding := by decide +kernel
  have hl : lv_has ls 4 [(0, .ref aR), (1, .int (iI rg)), (2, .int (iI hrs))] := hl
  obtain ⟨H, hH⟩ : ∃ z, z = s.heap := ⟨_, rfl⟩
  obtain ⟨locs, hlo⟩ : ∃ z : List Loc, z = [] := ⟨_, rfl⟩
  obtain ⟨Q9, hQ9⟩ : ∃ z, z = MQ below (va_Qv (fun (u : Unit) => True) (fun u t => xE g A ((fun (u : Unit) => [(aR, .inr (11, [.ref aG, .ref aP, .ref aH, .ref aY, .ref aT, .ref aS, .ref aF, .ref aX, .int (iI pr), .int (iI tk), .int (iI tol), .int (iI hou)])), (aG, .inr (4, [.ref aGn, .ref aGw, .ref aGs, .int (iI kn)])), (aGn, .inl (gI g, 200, .inl (ar nd))), (aGw, .inl (gI g, 200, .inl (ar wk))), (aGs, .inl (gI g, 200, .inl (ar (sinkF kn sk rg (hrs * (mx 0 (gt0 kn nd rg - pr) * gt0 kn wk rg / 50))))))]) u) t) A) args s 0 0 A := ⟨_, rfl⟩
  have hP : va_P (gD g) vwCl [(aR, .inr (11, [.ref aG, .ref aP, .ref aH, .ref aY, .ref aT, .ref aS, .ref aF, .ref aX, .int (iI pr), .int (iI tk), .int (iI tol), .int (iI hou)])), (aG, .inr (4, [.ref aGn, .ref aGw, .ref aGs, .int (iI kn)])), (aGn, .inl (gI g, 200, .inl (ar nd))), (aGw, .inl (gI g, 200, .inl (ar wk))), (aGs, .inl (gI g, 200, .inl (ar sk)))] H := by rw [hH]; exact hP
  have hS : va_S A s.heap H locs := by rw [hH, hlo]; exact hS
  have goal_ : W p l e { frames := 3, cells := 0, slots := 0, locals := 64 } s m args below meth c H locs 0 0 Q9 (F0 m 0 ls []) := by
    clear hH hlo
    have m0 := mx_r 0 (gt0 kn nd rg - pr) rfl
    have m1 := gt0_r (k := kn) (i := rg) hb_nd (by omega) (by omega)
    have m2 := gt0_r (k := kn) (i := rg) hb_wk (by omega) (by omega)
    have m3 := mulb0 (A := 100) (B := 20) (a := mx 0 (gt0 kn nd rg - pr)) (b := gt0 kn wk rg) (by omega) (by omega)
    refine lv_aload_n hx hb dX8_sinkWhileStanding_0 rfl (lv_at hl 0 rfl) ?_
    refine va_get (D := gD g) (ci := 11) (v := .ref aG) (C := RX8) (T := TX8) (N := 12) hx hb hts hin8 hown hK hP 0 rfl rfl 0 (by decide) (hts (.fieldLink RX8 10 "TunnelRing" "ground" "LTunnelRing$Ground;") (List.mem_of_getElem? (i := 1) rfl)) (fun _ h9 => h9) rfl dX8_sinkWhileStanding_1 ?_
    refine lv_iload_n hx hb dX8_sinkWhileStanding_4 rfl (lv_at hl 1 rfl) ?_
    refine lv_aload_n hx hb dX8_sinkWhileStanding_5 rfl (lv_at hl 0 rfl) ?_
    refine va_get (D := gD g) (ci := 11) (v := .int (iI pr)) (C := RX8) (T := TX8) (N := 12) hx hb hts hin8 hown hK hP 0 rfl rfl 8 (by decide) (hts (.fieldLink RX8 65 "TunnelRing" "pressure" "I") (List.mem_of_getElem? (i := 2) rfl)) (fun _ h9 => h9) rfl dX8_sinkWhileStanding_6 ?_
    refine x_calli (S := Unit) (wc := [(aG, .inr (4, [.ref aGn, .ref aGw, .ref aGs, .int (iI kn)])), (aGn, .inl (gI g, 200, .inl (ar nd)))]) (wr := [(aR, .inr (11, [.ref aG, .ref aP, .ref aH, .ref aY, .ref aT, .ref aS, .ref aF, .ref aX, .int (iI pr), .int (iI tk), .int (iI tol), .int (iI hou)])), (aGw, .inl (gI g, 200, .inl (ar wk))), (aGs, .inl (gI g, 200, .inl (ar sk)))]) hC hP hD hS hA [1, 2] [0, 3, 4] [0, 3, 4, 1, 2] rfl rfl (fun hpre => va_runV (As := [.int (iI rg), .int (iI pr)]) (rest := []) ⟨hx, hb, hml, hown, hts⟩ (c_X1_missing l g H.size aG aGn aGw aGs kn rg pr nd (by first | (first | assumption | omega | exact bnd_up (by assumption) (by omega) (by omega)) | fail "q8") (by first | (first | assumption | omega | exact bnd_up (by assumption) (by omega) (by omega)) | fail "q8") (by first | (first | assumption | omega | exact bnd_up (by assumption) (by omega) (by omega)) | fail "q8") (by first | (first | assumption | omega | exact bnd_up (by assumption) (by omega) (by omega)) | fail "q8")) (cwV 2 hts gX8_sinkWhileStanding_X1_missing rfl rfl rfl (by decide +kernel) ⟨Nat.le_of_ble_eq_true rfl, Nat.le_of_ble_eq_true rfl⟩) ⟨xB_blind, va_recv hK hP (ci := 4) (q0 := 1) rfl rfl, hpre _⟩ rfl rfl hl.1 rfl (lv_room (Nat.le_of_ble_eq_true rfl)) dX8_sinkWhileStanding_9 ⟨Nat.le_of_ble_eq_true rfl, Nat.le_of_ble_eq_true rfl⟩) (fun (u : Unit) => [(aR, .inr (11, [.ref aG, .ref aP, .ref aH, .ref aY, .ref aT, .ref aS, .ref aF, .ref aX, .int (iI pr), .int (iI tk), .int (iI tol), .int (iI hou)])), (aG, .inr (4, [.ref aGn, .ref aGw, .ref aGs, .int (iI kn)])), (aGn, .inl (gI g, 200, .inl (ar nd))), (aGw, .inl (gI g, 200, .inl (ar wk))), (aGs, .inl (gI g, 200, .inl (ar sk)))]) rfl rfl (by decide) (fun _ => rfl) rfl (fun u v_1 H locs hv_1 pv_1 hP hD hS => ?_)
    have hP : va_P (gD g) vwCl [(aR, .inr (11, [.ref aG, .ref aP, .ref aH, .ref aY, .ref aT, .ref aS, .ref aF, .ref aX, .int (iI pr), .int (iI tk), .int (iI tol), .int (iI hou)])), (aG, .inr (4, [.ref aGn, .ref aGw, .ref aGs, .int (iI kn)])), (aGn, .inl (gI g, 200, .inl (ar nd))), (aGw, .inl (gI g, 200, .inl (ar wk))), (aGs, .inl (gI g, 200, .inl (ar sk)))] H := hP
    have hD : va_D A [(aR, .inr (11, [.ref aG, .ref aP, .ref aH, .ref aY, .ref aT, .ref aS, .ref aF, .ref aX, .int (iI pr), .int (iI tk), .int (iI tol), .int (iI hou)])), (aG, .inr (4, [.ref aGn, .ref aGw, .ref aGs, .int (iI kn)])), (aGn, .inl (gI g, 200, .inl (ar nd))), (aGw, .inl (gI g, 200, .inl (ar wk))), (aGs, .inl (gI g, 200, .inl (ar sk)))] := hD
    have hv_1 : v_1 = mx 0 (gt0 kn nd rg - pr) := hv_1
    have pv_1 : 0 ≤ v_1 ∧ v_1 ≤ 100 := by first | exact pv_1 | (rw [hv_1]; exact pv_1)
    refine lv_aload_n hx hb dX8_sinkWhileStanding_12 rfl (lv_at hl 0 rfl) ?_
    refine va_get (D := gD g) (ci := 11) (v := .ref aG) (C := RX8) (T := TX8) (N := 12) hx hb hts hin8 hown hK hP 0 rfl rfl 0 (by decide) (hts (.fieldLink RX8 10 "TunnelRing" "ground" "LTunnelRing$Ground;") (List.mem_of_getElem? (i := 1) rfl)) (fun _ h9 => h9) rfl dX8_sinkWhileStanding_13 ?_
    refine lv_iload_n hx hb dX8_sinkWhileStanding_16 rfl (lv_at hl 1 rfl) ?_
    refine x_calli (S := Unit) (wc := [(aG, .inr (4, [.ref aGn, .ref aGw, .ref aGs, .int (iI kn)])), (aGw, .inl (gI g, 200, .inl (ar wk)))]) (wr := [(aR, .inr (11, [.ref aG, .ref aP, .ref aH, .ref aY, .ref aT, .ref aS, .ref aF, .ref aX, .int (iI pr), .int (iI tk), .int (iI tol), .int (iI hou)])), (aGn, .inl (gI g, 200, .inl (ar nd))), (aGs, .inl (gI g, 200, .inl (ar sk)))]) hC hP hD hS hA [1, 3] [0, 2, 4] [0, 3, 1, 4, 2] rfl rfl (fun hpre => va_runV (As := [.int (iI rg)]) (rest := [.int (iI v_1)]) ⟨hx, hb, hml, hown, hts⟩ (c_X1_weaknessOf l g H.size aG aGn aGw aGs kn rg wk (by first | (first | assumption | omega | exact bnd_up (by assumption) (by omega) (by omega)) | fail "q8") (by first | (first | assumption | omega | exact bnd_up (by assumption) (by omega) (by omega)) | fail "q8") (by first | (first | assumption | omega | exact bnd_up (by assumption) (by omega) (by omega)) | fail "q8")) (cwV 1 hts gX8_sinkWhileStanding_X1_weaknessOf rfl rfl rfl (by decide +kernel) ⟨Nat.le_of_ble_eq_true rfl, Nat.le_of_ble_eq_true rfl⟩) ⟨xB_blind, va_recv hK hP (ci := 4) (q0 := 1) rfl rfl, hpre _⟩ rfl rfl hl.1 rfl (lv_room (Nat.le_of_ble_eq_true rfl)) dX8_sinkWhileStanding_17 ⟨Nat.le_of_ble_eq_true rfl, Nat.le_of_ble_eq_true rfl⟩) (fun (u : Unit) => [(aR, .inr (11, [.ref aG, .ref aP, .ref aH, .ref aY, .ref aT, .ref aS, .ref aF, .ref aX, .int (iI pr), .int (iI tk), .int (iI tol), .int (iI hou)])), (aG, .inr (4, [.ref aGn, .ref aGw, .ref aGs, .int (iI kn)])), (aGn, .inl (gI g, 200, .inl (ar nd))), (aGw, .inl (gI g, 200, .inl (ar wk))), (aGs, .inl (gI g, 200, .inl (ar sk)))]) rfl rfl (by decide) (fun _ => rfl) rfl (fun u v_2 H locs hv_2 pv_2 hP hD hS => ?_)
    have hP : va_P (gD g) vwCl [(aR, .inr (11, [.ref aG, .ref aP, .ref aH, .ref aY, .ref aT, .ref aS, .ref aF, .ref aX, .int (iI pr), .int (iI tk), .int (iI tol), .int (iI hou)])), (aG, .inr (4, [.ref aGn, .ref aGw, .ref aGs, .int (iI kn)])), (aGn, .inl (gI g, 200, .inl (ar nd))), (aGw, .inl (gI g, 200, .inl (ar wk))), (aGs, .inl (gI g, 200, .inl (ar sk)))] H := hP
    have hD : va_D A [(aR, .inr (11, [.ref aG, .ref aP, .ref aH, .ref aY, .ref aT, .ref aS, .ref aF, .ref aX, .int (iI pr), .int (iI tk), .int (iI tol), .int (iI hou)])), (aG, .inr (4, [.ref aGn, .ref aGw, .ref aGs, .int (iI kn)])), (aGn, .inl (gI g, 200, .inl (ar nd))), (aGw, .inl (gI g, 200, .inl (ar wk))), (aGs, .inl (gI g, 200, .inl (ar sk)))] := hD
    have hv_2 : v_2 = gt0 kn wk rg := hv_2
    have pv_2 : 0 ≤ v_2 ∧ v_2 ≤ 20 := by first | exact pv_2 | (rw [hv_2]; exact pv_2)
    refine x_imul hx hb dX8_sinkWhileStanding_20 ?_
    have m4 : 0 ≤ (v_1 * v_2) ∧ (v_1 * v_2) ≤ 2000 := by subst_vars; omega
    refine x_bipush hx hb dX8_sinkWhileStanding_21 (by decide) ?_
    refine x_idiv hx hb (by omega) (by omega) dX8_sinkWhileStanding_23 ?_
    obtain ⟨v_3, ev_3⟩ : ∃ z : Int, z = (v_1 * v_2) / 50 := ⟨_, rfl⟩
    refine x_top ev_3.symm ?_
    refine lv_istore_n (lv' := [(3, .int (iI v_3)), (0, .ref aR), (1, .int (iI rg)), (2, .int (iI hrs))]) hx hb dX8_sinkWhileStanding_24 rfl hl (by decide) rfl (fun ls hl => ?_)
    refine lv_aload_n hx hb dX8_sinkWhileStanding_25 rfl (lv_at hl 1 rfl) ?_
    refine va_get (D := gD g) (ci := 11) (v := .ref aG) (C := RX8) (T := TX8) (N := 12) hx hb hts hin8 hown hK hP 0 rfl rfl 0 (by decide) (hts (.fieldLink RX8 10 "TunnelRing" "ground" "LTunnelRing$Ground;") (List.mem_of_getElem? (i := 1) rfl)) (fun _ h9 => h9) rfl dX8_sinkWhileStanding_26 ?_
    refine lv_iload_n hx hb dX8_sinkWhileStanding_29 rfl (lv_at hl 2 rfl) ?_
    refine lv_iload_n hx hb dX8_sinkWhileStanding_30 rfl (lv_at hl 0 rfl) ?_
    refine lv_iload_n hx hb dX8_sinkWhileStanding_31 rfl (lv_at hl 3 rfl) ?_
    refine x_imul hx hb dX8_sinkWhileStanding_32 ?_
    refine x_callv (S := Unit) (wc := [(aG, .inr (4, [.ref aGn, .ref aGw, .ref aGs, .int (iI kn)])), (aGs, .inl (gI g, 200, .inl (ar sk)))]) (wr := [(aR, .inr (11, [.ref aG, .ref aP, .ref aH, .ref aY, .ref aT, .ref aS, .ref aF, .ref aX, .int (iI pr), .int (iI tk), .int (iI tol), .int (iI hou)])), (aGn, .inl (gI g, 200, .inl (ar nd))), (aGw, .inl (gI g, 200, .inl (ar wk)))]) hC hP hD hS hA [1, 4] [0, 2, 3] [0, 3, 1, 2, 4] rfl rfl (fun hpre => va_runV (As := [.int (iI rg), .int (iI (v_3 * hrs))]) (rest := []) ⟨hx, hb, hml, hown, hts⟩ (c_X1_sink l g H.size aG aGn aGw aGs kn rg (v_3 * hrs) sk (by first | (first | assumption | omega | exact bnd_up (by assumption) (by omega) (by omega)) | fail "q8") (by first | (first | assumption | omega | exact bnd_up (by assumption) (by omega) (by omega)) | fail "q8")) (cwV 2 hts gX8_sinkWhileStanding_X1_sink rfl rfl rfl (by decide +kernel) ⟨Nat.le_of_ble_eq_true rfl, Nat.le_of_ble_eq_true rfl⟩) ⟨xB_blind, va_recv hK hP (ci := 4) (q0 := 1) rfl rfl, hpre _⟩ rfl rfl hl.1 rfl (lv_room (Nat.le_of_ble_eq_true rfl)) dX8_sinkWhileStanding_33 ⟨Nat.le_of_ble_eq_true rfl, Nat.le_of_ble_eq_true rfl⟩) (fun (u : Unit) => [(aR, .inr (11, [.ref aG, .ref aP, .ref aH, .ref aY, .ref aT, .ref aS, .ref aF, .ref aX, .int (iI pr), .int (iI tk), .int (iI tol), .int (iI hou)])), (aG, .inr (4, [.ref aGn, .ref aGw, .ref aGs, .int (iI kn)])), (aGn, .inl (gI g, 200, .inl (ar nd))), (aGw, .inl (gI g, 200, .inl (ar wk))), (aGs, .inl (gI g, 200, .inl (ar (sinkF kn sk rg (v_3 * hrs)))))]) rfl rfl (by decide) (fun _ => rfl) rfl (fun u H locs hv_4 hP hD hS => ?_)
    have hP : va_P (gD g) vwCl [(aR, .inr (11, [.ref aG, .ref aP, .ref aH, .ref aY, .ref aT, .ref aS, .ref aF, .ref aX, .int (iI pr), .int (iI tk), .int (iI tol), .int (iI hou)])), (aG, .inr (4, [.ref aGn, .ref aGw, .ref aGs, .int (iI kn)])), (aGn, .inl (gI g, 200, .inl (ar nd))), (aGw, .inl (gI g, 200, .inl (ar wk))), (aGs, .inl (gI g, 200, .inl (ar (sinkF kn sk rg (v_3 * hrs)))))] H := hP
    have hD : va_D A [(aR, .inr (11, [.ref aG, .ref aP, .ref aH, .ref aY, .ref aT, .ref aS, .ref aF, .ref aX, .int (iI pr), .int (iI tk), .int (iI tol), .int (iI hou)])), (aG, .inr (4, [.ref aGn, .ref aGw, .ref aGs, .int (iI kn)])), (aGn, .inl (gI g, 200, .inl (ar nd))), (aGw, .inl (gI g, 200, .inl (ar wk))), (aGs, .inl (gI g, 200, .inl (ar (sinkF kn sk rg (v_3 * hrs)))))] := hD
    have q_5 : (sinkF kn sk rg (hrs * (mx 0 (gt0 kn nd rg - pr) * gt0 kn wk rg / 50))) = (sinkF kn sk rg (v_3 * hrs)) := by
      first
      | (
         subst_vars
         rw [Int.mul_comm hrs])
      | fail "q9"
    have hw_6 := (congrArg (fun (z0 : Int → Int) => ([(aR, .inr (11, [.ref aG, .ref aP, .ref aH, .ref aY, .ref aT, .ref aS, .ref aF, .ref aX, .int (iI pr), .int (iI tk), .int (iI tol), .int (iI hou)])), (aG, .inr (4, [.ref aGn, .ref aGw, .ref aGs, .int (iI kn)])), (aGn, .inl (gI g, 200, .inl (ar nd))), (aGw, .inl (gI g, 200, .inl (ar wk))), (aGs, .inl (gI g, 200, .inl (ar z0)))] : va_W)) q_5.symm)
    rw [hQ9]
    exact x_vret hx hb hr hlocks hP hD hS (S := Unit) (Φ := _) (W1 := _) dX8_sinkWhileStanding_36 () trivial hw_6 (Nat.le_of_ble_eq_true rfl) (Nat.le_of_ble_eq_true rfl)
  rw [hH, hlo, hQ9] at goal_
  exact goal_

set_option maxHeartbeats 4000000 in
set_option maxRecDepth 100000 in
theorem c_X8_stop (l : Launch) (hflags : l.stackTraces = false) (g : xg) (sz : Nat) (aR aG aP aH aY aT aS aF aX aGn aGw aGs aTp aTt aTx aTy aE : Nat) (pr tk tol hou kn ld hrs : Int) (nd wk sk : Int → Int) (hkn : 0 ≤ kn ∧ kn ≤ 200) (hld : 0 ≤ ld ∧ ld ≤ 200) (hhou : 0 ≤ hou ∧ hou ≤ 5000) (hpr : 0 ≤ pr ∧ pr ≤ 100) (hb_nd : bnd nd 0 100) (hb_wk : bnd wk 0 20) (hr_hrs : iR hrs) : vx_Met l yX8_stop wsX8_stop { frames := 7, cells := 2, slots := 12, locals := 114 } (va_Pc [.ref aR, .int (iI hrs)] (xB g [(aR, .inr (11, [.ref aG, .ref aP, .ref aH, .ref aY, .ref aT, .ref aS, .ref aF, .ref aX, .int (iI pr), .int (iI tk), .int (iI tol), .int (iI hou)])), (aG, .inr (4, [.ref aGn, .ref aGw, .ref aGs, .int (iI kn)])), (aGn, .inl (gI g, 200, .inl (ar nd))), (aGw, .inl (gI g, 200, .inl (ar wk))), (aGs, .inl (gI g, 200, .inl (ar sk))), (aT, .inr (9, [.ref aTp, .ref aTt, .ref aTx, .ref aTy, .ref aE, .int (iI ld)]))] sz)) (va_Qi (fun r u => r = iI ((fun (u : Unit) => hou + hrs) u) ∧ (fun (u : Unit) => (soT hou hrs = 0) ∧ (True)) u) (fun u t => xE g (va_A [(aR, .inr (11, [.ref aG, .ref aP, .ref aH, .ref aY, .ref aT, .ref aS, .ref aF, .ref aX, .int (iI pr), .int (iI tk), .int (iI tol), .int (iI hou)])), (aG, .inr (4, [.ref aGn, .ref aGw, .ref aGs, .int (iI kn)])), (aGn, .inl (gI g, 200, .inl (ar nd))), (aGw, .inl (gI g, 200, .inl (ar wk))), (aGs, .inl (gI g, 200, .inl (ar sk))), (aT, .inr (9, [.ref aTp, .ref aTt, .ref aTx, .ref aTy, .ref aE, .int (iI ld)]))] sz) ((fun (u : Unit) => [(aR, .inr (11, [.ref aG, .ref aP, .ref aH, .ref aY, .ref aT, .ref aS, .ref aF, .ref aX, .int (iI pr), .int (iI tk), .int (iI tol), .int (iI (hou + hrs))])), (aG, .inr (4, [.ref aGn, .ref aGw, .ref aGs, .int (iI kn)])), (aGn, .inl (gI g, 200, .inl (ar nd))), (aGw, .inl (gI g, 200, .inl (ar wk))), (aGs, .inl (gI g, 200, .inl (ar (sinkF kn sk ld (hrs * (mx 0 (gt0 kn nd ld - pr) * gt0 kn wk ld / 50)))))), (aT, .inr (9, [.ref aTp, .ref aTt, .ref aTx, .ref aTy, .ref aE, .int (iI ld)]))]) u) t) (va_A [(aR, .inr (11, [.ref aG, .ref aP, .ref aH, .ref aY, .ref aT, .ref aS, .ref aF, .ref aX, .int (iI pr), .int (iI tk), .int (iI tol), .int (iI hou)])), (aG, .inr (4, [.ref aGn, .ref aGw, .ref aGs, .int (iI kn)])), (aGn, .inl (gI g, 200, .inl (ar nd))), (aGw, .inl (gI g, 200, .inl (ar wk))), (aGs, .inl (gI g, 200, .inl (ar sk))), (aT, .inr (9, [.ref aTp, .ref aTt, .ref aTx, .ref aTy, .ref aE, .int (iI ld)]))] sz)) (xX g (va_A [(aR, .inr (11, [.ref aG, .ref aP, .ref aH, .ref aY, .ref aT, .ref aS, .ref aF, .ref aX, .int (iI pr), .int (iI tk), .int (iI tol), .int (iI hou)])), (aG, .inr (4, [.ref aGn, .ref aGw, .ref aGs, .int (iI kn)])), (aGn, .inl (gI g, 200, .inl (ar nd))), (aGw, .inl (gI g, 200, .inl (ar wk))), (aGs, .inl (gI g, 200, .inl (ar sk))), (aT, .inr (9, [.ref aTp, .ref aTt, .ref aTx, .ref aTy, .ref aE, .int (iI ld)]))] sz) (fun (u : Unit) => True) (fun E : String => (E = "java/lang/IllegalArgumentException" ∧ (soT hou hrs = 1)) ∨ (E = "java/lang/IllegalStateException" ∧ (soT hou hrs = 2))) (fun (u : Unit) => ([(aR, .inr (11, [.ref aG, .ref aP, .ref aH, .ref aY, .ref aT, .ref aS, .ref aF, .ref aX, .int (iI pr), .int (iI tk), .int (iI tol), .int (iI hou)])), (aG, .inr (4, [.ref aGn, .ref aGw, .ref aGs, .int (iI kn)])), (aGn, .inl (gI g, 200, .inl (ar nd))), (aGw, .inl (gI g, 200, .inl (ar wk))), (aGs, .inl (gI g, 200, .inl (ar sk))), (aT, .inr (9, [.ref aTp, .ref aTt, .ref aTx, .ref aTy, .ref aE, .int (iI ld)]))] : va_W))) 2 12 (va_A [(aR, .inr (11, [.ref aG, .ref aP, .ref aH, .ref aY, .ref aT, .ref aS, .ref aF, .ref aX, .int (iI pr), .int (iI tk), .int (iI tol), .int (iI hou)])), (aG, .inr (4, [.ref aGn, .ref aGw, .ref aGs, .int (iI kn)])), (aGn, .inl (gI g, 200, .inl (ar nd))), (aGw, .inl (gI g, 200, .inl (ar wk))), (aGs, .inl (gI g, 200, .inl (ar sk))), (aT, .inr (9, [.ref aTp, .ref aTt, .ref aTx, .ref aTy, .ref aE, .int (iI ld)]))] sz) := by
  refine x_enterX (y := yX8_stop) (ws := wsX8_stop) (g := g) (sz := sz) (av := [.ref aR, .int (iI hrs)]) (WS := [(aR, .inr (11, [.ref aG, .ref aP, .ref aH, .ref aY, .ref aT, .ref aS, .ref aF, .ref aX, .int (iI pr), .int (iI tk), .int (iI tol), .int (iI hou)])), (aG, .inr (4, [.ref aGn, .ref aGw, .ref aGs, .int (iI kn)])), (aGn, .inl (gI g, 200, .inl (ar nd))), (aGw, .inl (gI g, 200, .inl (ar wk))), (aGs, .inl (gI g, 200, .inl (ar sk))), (aT, .inr (9, [.ref aTp, .ref aTt, .ref aTx, .ref aTy, .ref aE, .int (iI ld)]))]) (cc := cX8_stop) (maxL := 2) (ret := some .int) (Qc := (fun A => (va_Qi (fun r u => r = iI ((fun (u : Unit) => hou + hrs) u) ∧ (fun (u : Unit) => (soT hou hrs = 0) ∧ (True)) u) (fun u t => xE g A ((fun (u : Unit) => [(aR, .inr (11, [.ref aG, .ref aP, .ref aH, .ref aY, .ref aT, .ref aS, .ref aF, .ref aX, .int (iI pr), .int (iI tk), .int (iI tol), .int (iI (hou + hrs))])), (aG, .inr (4, [.ref aGn, .ref aGw, .ref aGs, .int (iI kn)])), (aGn, .inl (gI g, 200, .inl (ar nd))), (aGw, .inl (gI g, 200, .inl (ar wk))), (aGs, .inl (gI g, 200, .inl (ar (sinkF kn sk ld (hrs * (mx 0 (gt0 kn nd ld - pr) * gt0 kn wk ld / 50)))))), (aT, .inr (9, [.ref aTp, .ref aTt, .ref aTx, .ref aTy, .ref aE, .int (iI ld)]))]) u) t) A))) (XC := (fun A => (xX g A (fun (u : Unit) => True) (fun E : String => (E = "java/lang/IllegalArgumentException" ∧ (soT hou hrs = 1)) ∨ (E = "java/lang/IllegalStateException" ∧ (soT hou hrs = 2))) (fun (u : Unit) => ([(aR, .inr (11, [.ref aG, .ref aP, .ref aH, .ref aY, .ref aT, .ref aS, .ref aF, .ref aX, .int (iI pr), .int (iI tk), .int (iI tol), .int (iI hou)])), (aG, .inr (4, [.ref aGn, .ref aGw, .ref aGs, .int (iI kn)])), (aGn, .inl (gI g, 200, .inl (ar nd))), (aGw, .inl (gI g, 200, .inl (ar wk))), (aGs, .inl (gI g, 200, .inl (ar sk))), (aT, .inr (9, [.ref aTp, .ref aTt, .ref aTx, .ref aTy, .ref aE, .int (iI ld)]))] : va_W))))) (by decide) rfl (Nat.le_of_ble_eq_true rfl) ?_
  intro p e s m args below meth c A ls hx hb hr hml hown hts hlocks hout hC hP hD hS hA hl
  have hK := hC.1
  have hown : s.vm.findClass RX8 = some m.cls := hown
  have hin6 : ∀ w ∈ u_ws RX6 TX6 6, w ∈ wsX8_stop := by decide +kernel
  have hin8 : ∀ w ∈ u_ws RX8 TX8 12, w ∈ wsX8_stop := by decide +kernel
  have hl : lv_has ls 2 [(0, .ref aR), (1, .int (iI hrs))] := hl
  obtain ⟨H, hH⟩ : ∃ z, z = s.heap := ⟨_, rfl⟩
  obtain ⟨locs, hlo⟩ : ∃ z : List Loc, z = [] := ⟨_, rfl⟩
  obtain ⟨Q9, hQ9⟩ : ∃ z, z = vx_MQ below (va_Qi (fun r u => r = iI ((fun (u : Unit) => hou + hrs) u) ∧ (fun (u : Unit) => (soT hou hrs = 0) ∧ (True)) u) (fun u t => xE g A ((fun (u : Unit) => [(aR, .inr (11, [.ref aG, .ref aP, .ref aH, .ref aY, .ref aT, .ref aS, .ref aF, .ref aX, .int (iI pr), .int (iI tk), .int (iI tol), .int (iI (hou + hrs))])), (aG, .inr (4, [.ref aGn, .ref aGw, .ref aGs, .int (iI kn)])), (aGn, .inl (gI g, 200, .inl (ar nd))), (aGw, .inl (gI g, 200, .inl (ar wk))), (aGs, .inl (gI g, 200, .inl (ar (sinkF kn sk ld (hrs * (mx 0 (gt0 kn nd ld - pr) * gt0 kn wk ld / 50)))))), (aT, .inr (9, [.ref aTp, .ref aTt, .ref aTx, .ref aTy, .ref aE, .int (iI ld)]))]) u) t) A) (xX g A (fun (u : Unit) => True) (fun E : String => (E = "java/lang/IllegalArgumentException" ∧ (soT hou hrs = 1)) ∨ (E = "java/lang/IllegalStateException" ∧ (soT hou hrs = 2))) (fun (u : Unit) => ([(aR, .inr (11, [.ref aG, .ref aP, .ref aH, .ref aY, .ref aT, .ref aS, .ref aF, .ref aX, .int (iI pr), .int (iI tk), .int (iI tol), .int (iI hou)])), (aG, .inr (4, [.ref aGn, .ref aGw, .ref aGs, .int (iI kn)])), (aGn, .inl (gI g, 200, .inl (ar nd))), (aGw, .inl (gI g, 200, .inl (ar wk))), (aGs, .inl (gI g, 200, .inl (ar sk))), (aT, .inr (9, [.ref aTp, .ref aTt, .ref aTx, .ref aTy, .ref aE, .int (iI ld)]))] : va_W))) args s 2 12 A := ⟨_, rfl⟩
  have hP : va_P (gD g) vwCl [(aR, .inr (11, [.ref aG, .ref aP, .ref aH, .ref aY, .ref aT, .ref aS, .ref aF, .ref aX, .int (iI pr), .int (iI tk), .int (iI tol), .int (iI hou)])), (aG, .inr (4, [.ref aGn, .ref aGw, .ref aGs, .int (iI kn)])), (aGn, .inl (gI g, 200, .inl (ar nd))), (aGw, .inl (gI g, 200, .inl (ar wk))), (aGs, .inl (gI g, 200, .inl (ar sk))), (aT, .inr (9, [.ref aTp, .ref aTt, .ref aTx, .ref aTy, .ref aE, .int (iI ld)]))] H := by rw [hH]; exact hP
  have hS : va_S A s.heap H locs := by rw [hH, hlo]; exact hS
  have goal_ : W p l e { frames := 7, cells := 2, slots := 12, locals := 114 } s m args below meth c H locs 0 0 Q9 (F0 m 0 ls []) := by
    clear hH hlo
    refine lv_iload_n hx hb dX8_stop_0 rfl (lv_at hl 1 rfl) ?_
    refine x_iconst hx hb dX8_stop_1 ?_
    refine x_bipush hx hb dX8_stop_2 (by decide) ?_
    refine x_callvX (S := Unit) (SX := Unit) (wc := []) (wr := [(aR, .inr (11, [.ref aG, .ref aP, .ref aH, .ref aY, .ref aT, .ref aS, .ref aF, .ref aX, .int (iI pr), .int (iI tk), .int (iI tol), .int (iI hou)])), (aG, .inr (4, [.ref aGn, .ref aGw, .ref aGs, .int (iI kn)])), (aGn, .inl (gI g, 200, .inl (ar nd))), (aGw, .inl (gI g, 200, .inl (ar wk))), (aGs, .inl (gI g, 200, .inl (ar sk))), (aT, .inr (9, [.ref aTp, .ref aTt, .ref aTx, .ref aTy, .ref aE, .int (iI ld)]))]) hC hP hD hS hA [] [0, 1, 2, 3, 4, 5] [0, 1, 2, 3, 4, 5] rfl rfl (fun hpre => vx_runS (As := [.int (iI hrs), .int (iI 1), .int (iI 100)]) (rest := []) ⟨hx, hb, hml, hown, hts⟩ (c_X8_checkRange l hflags g H.size hrs 1 100 (by first | (first | assumption | omega | exact bnd_up (by assumption) (by omega) (by omega)) | fail "q8") (by first | (first | assumption | omega | exact bnd_up (by assumption) (by omega) (by omega)) | fail "q8") (by first | (first | assumption | omega | exact bnd_up (by assumption) (by omega) (by omega)) | fail "q8")) (va_cwS 3 hts gX8_stop_X8_checkRange rfl rfl rfl (by decide +kernel) ⟨Nat.le_of_ble_eq_true rfl, Nat.le_of_ble_eq_true rfl⟩) ⟨xB_blind, hpre _⟩ rfl rfl hl.1 rfl (lv_room (Nat.le_of_ble_eq_true rfl)) dX8_stop_4 ⟨Nat.le_of_ble_eq_true rfl, Nat.le_of_ble_eq_true rfl⟩) (fun (u : Unit) => [(aR, .inr (11, [.ref aG, .ref aP, .ref aH, .ref aY, .ref aT, .ref aS, .ref aF, .ref aX, .int (iI pr), .int (iI tk), .int (iI tol), .int (iI hou)])), (aG, .inr (4, [.ref aGn, .ref aGw, .ref aGs, .int (iI kn)])), (aGn, .inl (gI g, 200, .inl (ar nd))), (aGw, .inl (gI g, 200, .inl (ar wk))), (aGs, .inl (gI g, 200, .inl (ar sk))), (aT, .inr (9, [.ref aTp, .ref aTt, .ref aTx, .ref aTy, .ref aE, .int (iI ld)]))]) (fun (u : Unit) => ([(aR, .inr (11, [.ref aG, .ref aP, .ref aH, .ref aY, .ref aT, .ref aS, .ref aF, .ref aX, .int (iI pr), .int (iI tk), .int (iI tol), .int (iI hou)])), (aG, .inr (4, [.ref aGn, .ref aGw, .ref aGs, .int (iI kn)])), (aGn, .inl (gI g, 200, .inl (ar nd))), (aGw, .inl (gI g, 200, .inl (ar wk))), (aGs, .inl (gI g, 200, .inl (ar sk))), (aT, .inr (9, [.ref aTp, .ref aTt, .ref aTx, .ref aTy, .ref aE, .int (iI ld)]))] : va_W)) rfl rfl (by decide) (fun _ => rfl) (fun _ => rfl) rfl (fun E ce q9 u H locs hXP hPX hP hD hS hcell hv9 hcl => ?_) (fun u H locs hv_1 hP hD hS => ?_)
    · skip
      have hP : va_P (gD g) vwCl [(aR, .inr (11, [.ref aG, .ref aP, .ref aH, .ref aY, .ref aT, .ref aS, .ref aF, .ref aX, .int (iI pr), .int (iI tk), .int (iI tol), .int (iI hou)])), (aG, .inr (4, [.ref aGn, .ref aGw, .ref aGs, .int (iI kn)])), (aGn, .inl (gI g, 200, .inl (ar nd))), (aGw, .inl (gI g, 200, .inl (ar wk))), (aGs, .inl (gI g, 200, .inl (ar sk))), (aT, .inr (9, [.ref aTp, .ref aTt, .ref aTx, .ref aTy, .ref aE, .int (iI ld)]))] H := hP
      have hD : va_D A [(aR, .inr (11, [.ref aG, .ref aP, .ref aH, .ref aY, .ref aT, .ref aS, .ref aF, .ref aX, .int (iI pr), .int (iI tk), .int (iI tol), .int (iI hou)])), (aG, .inr (4, [.ref aGn, .ref aGw, .ref aGs, .int (iI kn)])), (aGn, .inl (gI g, 200, .inl (ar nd))), (aGw, .inl (gI g, 200, .inl (ar wk))), (aGs, .inl (gI g, 200, .inl (ar sk))), (aT, .inr (9, [.ref aTp, .ref aTt, .ref aTx, .ref aTy, .ref aE, .int (iI ld)]))] := hD
      obtain ⟨hE, hp⟩ := hPX
      have hp : ¬ (1 ≤ hrs ∧ hrs ≤ 100) := hp
      subst hE
      rw [hQ9]
      exact x_out hout hlocks hP hD hS hcell hv9 hcl () trivial (Or.inl ⟨rfl, (by
          first
          | (
             unfold soT
             omega)
          | fail "q9")⟩) rfl (Nat.le_of_ble_eq_true rfl) (Nat.le_of_ble_eq_true rfl)
    · skip
      have hP : va_P (gD g) vwCl [(aR, .inr (11, [.ref aG, .ref aP, .ref aH, .ref aY, .ref aT, .ref aS, .ref aF, .ref aX, .int (iI pr), .int (iI tk), .int (iI tol), .int (iI hou)])), (aG, .inr (4, [.ref aGn, .ref aGw, .ref aGs, .int (iI kn)])), (aGn, .inl (gI g, 200, .inl (ar nd))), (aGw, .inl (gI g, 200, .inl (ar wk))), (aGs, .inl (gI g, 200, .inl (ar sk))), (aT, .inr (9, [.ref aTp, .ref aTt, .ref aTx, .ref aTy, .ref aE, .int (iI ld)]))] H := hP
      have hD : va_D A [(aR, .inr (11, [.ref aG, .ref aP, .ref aH, .ref aY, .ref aT, .ref aS, .ref aF, .ref aX, .int (iI pr), .int (iI tk), .int (iI tol), .int (iI hou)])), (aG, .inr (4, [.ref aGn, .ref aGw, .ref aGs, .int (iI kn)])), (aGn, .inl (gI g, 200, .inl (ar nd))), (aGw, .inl (gI g, 200, .inl (ar wk))), (aGs, .inl (gI g, 200, .inl (ar sk))), (aT, .inr (9, [.ref aTp, .ref aTt, .ref aTx, .ref aTy, .ref aE, .int (iI ld)]))] := hD
      obtain ⟨tv_1, pv_1⟩ := hv_1
      have tv_1 : 1 ≤ hrs ∧ hrs ≤ 100 := tv_1
      refine lv_aload_n hx hb dX8_stop_7 rfl (lv_at hl 0 rfl) ?_
      refine va_get (D := gD g) (ci := 11) (v := .int (iI hou)) (C := RX8) (T := TX8) (N := 12) hx hb hts hin8 hown hK hP 0 rfl rfl 11 (by decide) (hts (.fieldLink RX8 75 "TunnelRing" "hour" "I") (List.mem_of_getElem? (i := 3) rfl)) (fun _ h9 => h9) rfl dX8_stop_8 ?_
      refine lv_iload_n hx hb dX8_stop_11 rfl (lv_at hl 1 rfl) ?_
      refine x_iadd hx hb dX8_stop_12 ?_
      refine x_sipush hx hb dX8_stop_13 (by decide) ?_
      refine x_cmp_le (tgt := 29) hx hb (by omega) (by omega) dX8_stop_16 (by decide) (fun c_2 => ?_) (fun c_2 => ?_)
      · skip
        refine lv_aload_n hx hb dX8_stop_29 rfl (lv_at hl 0 rfl) ?_
        refine lv_aload_n hx hb dX8_stop_30 rfl (lv_at hl 0 rfl) ?_
        refine va_get (D := gD g) (ci := 11) (v := .ref aT) (C := RX8) (T := TX8) (N := 12) hx hb hts hin8 hown hK hP 0 rfl rfl 4 (by decide) (hts (.fieldLink RX8 40 "TunnelRing" "tube" "LTunnelRing$Tube;") (List.mem_of_getElem? (i := 4) rfl)) (fun _ h9 => h9) rfl dX8_stop_31 ?_
        refine va_get (D := gD g) (ci := 9) (v := .int (iI ld)) (C := RX6) (T := TX6) (N := 6) hx hb hts hin6 hown hK hP 5 rfl rfl 5 (by decide) (hts (.fieldLink RX8 178 "TunnelRing$Tube" "laid" "I") (List.mem_of_getElem? (i := 5) rfl)) (fun _ h9 => h9) rfl dX8_stop_34 ?_
        refine lv_iload_n hx hb dX8_stop_37 rfl (lv_at hl 1 rfl) ?_
        refine x_callv (S := Unit) (wc := [(aR, .inr (11, [.ref aG, .ref aP, .ref aH, .ref aY, .ref aT, .ref aS, .ref aF, .ref aX, .int (iI pr), .int (iI tk), .int (iI tol), .int (iI hou)])), (aG, .inr (4, [.ref aGn, .ref aGw, .ref aGs, .int (iI kn)])), (aGn, .inl (gI g, 200, .inl (ar nd))), (aGw, .inl (gI g, 200, .inl (ar wk))), (aGs, .inl (gI g, 200, .inl (ar sk)))]) (wr := [(aT, .inr (9, [.ref aTp, .ref aTt, .ref aTx, .ref aTy, .ref aE, .int (iI ld)]))]) hC hP hD hS hA [0, 1, 2, 3, 4] [5] [1, 2, 3, 4, 5, 0] rfl rfl (fun hpre => va_runV (As := [.int (iI ld), .int (iI hrs)]) (rest := []) ⟨hx, hb, hml, hown, hts⟩ (c_X8_sinkWhileStanding l g H.size aR aG aP aH aY aT aS aF aX aGn aGw aGs pr tk tol hou kn ld hrs nd wk sk (by first | (first | assumption | omega | exact bnd_up (by assumption) (by omega) (by omega)) | fail "q8") (by first | (first | assumption | omega | exact bnd_up (by assumption) (by omega) (by omega)) | fail "q8") (by first | (first | assumption | omega | exact bnd_up (by assumption) (by omega) (by omega)) | fail "q8") (by first | (first | assumption | omega | exact bnd_up (by assumption) (by omega) (by omega)) | fail "q8") (by first | (first | assumption | omega | exact bnd_up (by assumption) (by omega) (by omega)) | fail "q8")) (cwV 2 hts gX8_stop_X8_sinkWhileStanding rfl rfl rfl (by decide +kernel) ⟨Nat.le_of_ble_eq_true rfl, Nat.le_of_ble_eq_true rfl⟩) ⟨xB_blind, va_recv hK hP (ci := 11) (q0 := 0) rfl rfl, hpre _⟩ rfl rfl hl.1 rfl (lv_room (Nat.le_of_ble_eq_true rfl)) dX8_stop_38 ⟨Nat.le_of_ble_eq_true rfl, Nat.le_of_ble_eq_true rfl⟩) (fun (u : Unit) => [(aR, .inr (11, [.ref aG, .ref aP, .ref aH, .ref aY, .ref aT, .ref aS, .ref aF, .ref aX, .int (iI pr), .int (iI tk), .int (iI tol), .int (iI hou)])), (aG, .inr (4, [.ref aGn, .ref aGw, .ref aGs, .int (iI kn)])), (aGn, .inl (gI g, 200, .inl (ar nd))), (aGw, .inl (gI g, 200, .inl (ar wk))), (aGs, .inl (gI g, 200, .inl (ar (sinkF kn sk ld (hrs * (mx 0 (gt0 kn nd ld - pr) * gt0 kn wk ld / 50)))))), (aT, .inr (9, [.ref aTp, .ref aTt, .ref aTx, .ref aTy, .ref aE, .int (iI ld)]))]) rfl rfl (by decide) (fun _ => rfl) rfl (fun u H locs hv_3 hP hD hS => ?_)
        have hP : va_P (gD g) vwCl [(aR, .inr (11, [.ref aG, .ref aP, .ref aH, .ref aY, .ref aT, .ref aS, .ref aF, .ref aX, .int (iI pr), .int (iI tk), .int (iI tol), .int (iI hou)])), (aG, .inr (4, [.ref aGn, .ref aGw, .ref aGs, .int (iI kn)])), (aGn, .inl (gI g, 200, .inl (ar nd))), (aGw, .inl (gI g, 200, .inl (ar wk))), (aGs, .inl (gI g, 200, .inl (ar (sinkF kn sk ld (hrs * (mx 0 (gt0 kn nd ld - pr) * gt0 kn wk ld / 50)))))), (aT, .inr (9, [.ref aTp, .ref aTt, .ref aTx, .ref aTy, .ref aE, .int (iI ld)]))] H := hP
        have hD : va_D A [(aR, .inr (11, [.ref aG, .ref aP, .ref aH, .ref aY, .ref aT, .ref aS, .ref aF, .ref aX, .int (iI pr), .int (iI tk), .int (iI tol), .int (iI hou)])), (aG, .inr (4, [.ref aGn, .ref aGw, .ref aGs, .int (iI kn)])), (aGn, .inl (gI g, 200, .inl (ar nd))), (aGw, .inl (gI g, 200, .inl (ar wk))), (aGs, .inl (gI g, 200, .inl (ar (sinkF kn sk ld (hrs * (mx 0 (gt0 kn nd ld - pr) * gt0 kn wk ld / 50)))))), (aT, .inr (9, [.ref aTp, .ref aTt, .ref aTx, .ref aTy, .ref aE, .int (iI ld)]))] := hD
        refine lv_aload_n hx hb dX8_stop_41 rfl (lv_at hl 0 rfl) ?_
        refine lv_dup hx hb dX8_stop_42 rfl ?_
        refine va_get (D := gD g) (ci := 11) (v := .int (iI hou)) (C := RX8) (T := TX8) (N := 12) hx hb hts hin8 hown hK hP 0 rfl rfl 11 (by decide) (hts (.fieldLink RX8 75 "TunnelRing" "hour" "I") (List.mem_of_getElem? (i := 3) rfl)) (fun _ h9 => h9) rfl dX8_stop_43 ?_
        refine lv_iload_n hx hb dX8_stop_46 rfl (lv_at hl 1 rfl) ?_
        refine x_iadd hx hb dX8_stop_47 ?_
        obtain ⟨v_4, ev_4⟩ : ∃ z : Int, z = hou + hrs := ⟨_, rfl⟩
        refine x_top ev_4.symm ?_
        refine va_put (D := gD g) (ci := 11) (v := .int (iI v_4)) (ty := tyX8 11) (C := RX8) (T := TX8) (N := 12) hx hb hts hin8 tyX8 tyX8_ok nmX8 hown hK hP hD hS 0 rfl rfl 11 (by decide) (hts (.fieldLink RX8 75 "TunnelRing" "hour" "I") (List.mem_of_getElem? (i := 3) rfl)) (fun _ h9 => h9) rfl (tyX8_ok 11 (by decide)) rfl rfl (Nat.le_of_ble_eq_true rfl) dX8_stop_48 (fun H locs hP hD hS => ?_)
        have hP : va_P (gD g) vwCl [(aR, .inr (11, [.ref aG, .ref aP, .ref aH, .ref aY, .ref aT, .ref aS, .ref aF, .ref aX, .int (iI pr), .int (iI tk), .int (iI tol), .int (iI v_4)])), (aG, .inr (4, [.ref aGn, .ref aGw, .ref aGs, .int (iI kn)])), (aGn, .inl (gI g, 200, .inl (ar nd))), (aGw, .inl (gI g, 200, .inl (ar wk))), (aGs, .inl (gI g, 200, .inl (ar (sinkF kn sk ld (hrs * (mx 0 (gt0 kn nd ld - pr) * gt0 kn wk ld / 50)))))), (aT, .inr (9, [.ref aTp, .ref aTt, .ref aTx, .ref aTy, .ref aE, .int (iI ld)]))] H := hP
        have hD : va_D A [(aR, .inr (11, [.ref aG, .ref aP, .ref aH, .ref aY, .ref aT, .ref aS, .ref aF, .ref aX, .int (iI pr), .int (iI tk), .int (iI tol), .int (iI v_4)])), (aG, .inr (4, [.ref aGn, .ref aGw, .ref aGs, .int (iI kn)])), (aGn, .inl (gI g, 200, .inl (ar nd))), (aGw, .inl (gI g, 200, .inl (ar wk))), (aGs, .inl (gI g, 200, .inl (ar (sinkF kn sk ld (hrs * (mx 0 (gt0 kn nd ld - pr) * gt0 kn wk ld / 50)))))), (aT, .inr (9, [.ref aTp, .ref aTt, .ref aTx, .ref aTy, .ref aE, .int (iI ld)]))] := hD
        refine lv_aload_n hx hb dX8_stop_51 rfl (lv_at hl 0 rfl) ?_
        refine va_get (D := gD g) (ci := 11) (v := .int (iI v_4)) (C := RX8) (T := TX8) (N := 12) hx hb hts hin8 hown hK hP 0 rfl rfl 11 (by decide) (hts (.fieldLink RX8 75 "TunnelRing" "hour" "I") (List.mem_of_getElem? (i := 3) rfl)) (fun _ h9 => h9) rfl dX8_stop_52 ?_
        have q_5 : (hou + hrs) = v_4 := by
          first
          | (
             first | rfl | omega | (subst_vars; first | rfl | omega))
          | fail "q9"
        have hw_6 := (congrArg (fun (z0 : Int) => ([(aR, .inr (11, [.ref aG, .ref aP, .ref aH, .ref aY, .ref aT, .ref aS, .ref aF, .ref aX, .int (iI pr), .int (iI tk), .int (iI tol), .int (iI z0)])), (aG, .inr (4, [.ref aGn, .ref aGw, .ref aGs, .int (iI kn)])), (aGn, .inl (gI g, 200, .inl (ar nd))), (aGw, .inl (gI g, 200, .inl (ar wk))), (aGs, .inl (gI g, 200, .inl (ar (sinkF kn sk ld (hrs * (mx 0 (gt0 kn nd ld - pr) * gt0 kn wk ld / 50)))))), (aT, .inr (9, [.ref aTp, .ref aTt, .ref aTx, .ref aTy, .ref aE, .int (iI ld)]))] : va_W)) q_5.symm)
        rw [hQ9]
        exact vx_ret (x_iret hx hb hr hlocks hP hD hS (S := Unit) rfl dX8_stop_55 () (by
            first
            | (
               first | rfl | omega | (subst_vars; first | rfl | omega))
            | fail "q9") ⟨(by
            first
            | (
               unfold soT
               omega)
            | fail "q9"), trivial⟩ hw_6 (Nat.le_of_ble_eq_true rfl) (Nat.le_of_ble_eq_true rfl))
      · skip
        rw [hQ9]
        exact x_throwS hx hb hflags hown (by decide +kernel) (by decide +kernel) (hts (.classLink RX8 85 "java/lang/IllegalStateException") (List.mem_of_getElem? (i := 1) rfl)) (hts (.initialized "java/lang/IllegalStateException") (List.mem_of_getElem? (i := 2) rfl)) (hC.2.2.2.2.2.1 _ (List.mem_of_getElem? (i := 9) rfl)) (vx_hat (B := [.castable "java/lang/IllegalStateException" "java/lang/IllegalStateException", .declares (Bundle.initS "java/lang/RuntimeException"), .declares (Bundle.initS "java/lang/Exception"), .declares (Bundle.initS "java/lang/Throwable")]) (fun w h => hts w (List.mem_cons_of_mem _ (List.mem_append_left _ (List.mem_append_left _ (List.mem_append_right _ h))))) (by decide +kernel) (vx_c (va_Nw.use rfl (hC.2.2.2.2.2.2.2.2.2.2.1 "java/lang/IllegalStateException" (List.mem_of_getElem? (i := 1) rfl))) (vx_c (va_Nw.use rfl (hC.2.2.2.2.2.2.2.2.2.2.2.1 "java/lang/RuntimeException" (List.mem_of_getElem? (i := 0) rfl))) (vx_c (va_Nw.use rfl (hC.2.2.2.2.2.2.2.2.2.2.2.1 "java/lang/Exception" (List.mem_of_getElem? (i := 1) rfl))) (vx_c (va_Nw.use rfl (hC.2.2.2.2.2.2.2.2.2.2.2.1 "java/lang/Throwable" (List.mem_of_getElem? (i := 2) rfl))) vx_n))))) (by decide +kernel) hC hP hD hS (hl.1.trans hml.symm) dX8_stop_19 dX8_stop_22 dX8_stop_23 dX8_stop_25 dX8_stop_28 hout (Nat.le_of_ble_eq_true rfl) (Nat.le_of_ble_eq_true rfl) (Nat.le_of_ble_eq_true rfl) (Nat.le_of_ble_eq_true rfl) hlocks () trivial (Or.inr ⟨rfl, (by
            first
            | (
               unfold soT
               omega)
            | fail "q9")⟩) rfl (Nat.le_of_ble_eq_true rfl) (Nat.le_of_ble_eq_true rfl)
  rw [hH, hlo, hQ9] at goal_
  exact goal_
