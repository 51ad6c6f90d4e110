set_option maxHeartbeats 4000000 in
set_option maxRecDepth 100000 in
theorem c_J5_isLatin1_aae02 (l : Launch) (g : xg) (sz : Nat) (aB aV : Nat) (ml ct : Int) : Met l yJ5_isLatin1_aae02 wsJ5_isLatin1_aae02 { frames := 0, cells := 0, slots := 0, locals := 0 } (va_Pc [.ref aB] (xB g [(aB, .inr (1, [.ref aV, .int (iI 0), .int (iI ml), .int (iI ct)]))] sz)) (va_Qi (fun r u => r = iI ((fun (u : Unit) => bI (True)) u) ∧ (fun (u : Unit) => True) u) (fun u t => xE g (va_A [(aB, .inr (1, [.ref aV, .int (iI 0), .int (iI ml), .int (iI ct)]))] sz) ((fun (u : Unit) => [(aB, .inr (1, [.ref aV, .int (iI 0), .int (iI ml), .int (iI ct)]))]) u) t) (va_A [(aB, .inr (1, [.ref aV, .int (iI 0), .int (iI ml), .int (iI ct)]))] sz)) 0 0 (va_A [(aB, .inr (1, [.ref aV, .int (iI 0), .int (iI ml), .int (iI ct)]))] sz) := by
  refine x_enter (y := yJ5_isLatin1_aae02) (ws := wsJ5_isLatin1_aae02) (g := g) (sz := sz) (av := [.ref aB]) (WS := [(aB, .inr (1, [.ref aV, .int (iI 0), .int (iI ml), .int (iI ct)]))]) (cc := cJ5_isLatin1_aae02) (maxL := 1) (ret := some .boolean) (Qc := (fun A => (va_Qi (fun r u => r = iI ((fun (u : Unit) => bI (True)) u) ∧ (fun (u : Unit) => True) u) (fun u t => xE g A ((fun (u : Unit) => [(aB, .inr (1, [.ref aV, .int (iI 0), .int (iI ml), .int (iI ct)]))]) u) t) A))) (by decide) rfl (Nat.le_of_ble_eq_true rfl) ?_
  intro p e s m args below meth c A ls hx hb hr hml hown hts hlocks hname hC hP hD hS hA hl
  have hK := hC.1
  have hown : s.vm.findClass RJ5 = some m.cls := hown
  have hinJ4 : ∀ w ∈ u_ws RJ4 TJ4 4, w ∈ wsJ5_isLatin1_aae02 := by decide +kernel
  have hl : lv_has ls 1 [(0, .ref aB)] := hl
  obtain ⟨H, hH⟩ : ∃ z, z = s.heap := ⟨_, rfl⟩
  obtain ⟨locs, hlo⟩ : ∃ z : List Loc, z = [] := ⟨_, rfl⟩
  obtain ⟨Q9, hQ9⟩ : ∃ z, z = MQ below (va_Qi (fun r u => r = iI ((fun (u : Unit) => bI (True)) u) ∧ (fun (u : Unit) => True) u) (fun u t => xE g A ((fun (u : Unit) => [(aB, .inr (1, [.ref aV, .int (iI 0), .int (iI ml), .int (iI ct)]))]) u) t) A) args s 0 0 A := ⟨_, rfl⟩
  have hP : va_P (gD g) vwCl [(aB, .inr (1, [.ref aV, .int (iI 0), .int (iI ml), .int (iI ct)]))] H := by rw [hH]; exact hP
  have hS : va_S A s.heap H locs := by rw [hH, hlo]; exact hS
  have goal_ : W p l e { frames := 0, cells := 0, slots := 0, locals := 0 } s m args below meth c H locs 0 0 Q9 (F0 m 0 ls []) := by
    clear hH hlo
    refine va_gets hx hb hC.d.1 hS hown (hts (.fieldLink RJ5 18 "java/lang/String" "COMPACT_STRINGS" "Z") (List.mem_of_getElem? (i := 1) rfl)) (fun _ h9 => h9) dJ5_isLatin1_aae02_0 ?_
    refine W.eq (g2 := F0 m 3 ls [.int (iI 1)]) rfl ?_
    refine x_if_eq (tgt := 17) hx hb (by omega) dJ5_isLatin1_aae02_3 (by decide) (fun c_1 => ?_) (fun c_1 => ?_)
    · skip
      exact absurd c_1 (by decide)
    · skip
      refine lv_aload_n hx hb dJ5_isLatin1_aae02_6 rfl (lv_at hl 0 rfl) ?_
      refine va_get (D := gD g) (ci := 1) (v := .int (iI 0)) (C := RJ4) (T := TJ4) (N := 4) hx hb hts hinJ4 hown hK hP 0 rfl rfl 1 (by decide) (hts (.fieldLink RJ5 22 "java/lang/AbstractStringBuilder" "coder" "B") (List.mem_of_getElem? (i := 2) rfl)) (fun _ h9 => h9) rfl dJ5_isLatin1_aae02_7 ?_
      refine x_if_ne (tgt := 17) hx hb (by omega) dJ5_isLatin1_aae02_10 (by decide) (fun c_2 => ?_) (fun c_2 => ?_)
      · skip
        exact absurd c_2 (by decide)
      · skip
        refine x_iconst hx hb dJ5_isLatin1_aae02_13 ?_
        refine lv_goto (tgt := 18) hx hb dJ5_isLatin1_aae02_14 (by decide) ?_
        rw [hQ9]
        exact x_iret hx hb hr hlocks hP hD hS (S := Unit) (by decide) dJ5_isLatin1_aae02_18 () (by
            first
            | (
               exact (bI_t True.intro).symm)
            | fail "q9") trivial rfl (Nat.le_of_ble_eq_true rfl) (Nat.le_of_ble_eq_true rfl)
  rw [hH, hlo, hQ9] at goal_
  exact goal_

set_option maxHeartbeats 4000000 in
set_option maxRecDepth 100000 in
theorem c_J0_coder0 (l : Launch) (g : xg) (sz : Nat) : Met l yJ0_coder_7d493 wsJ0_coder_7d493 { frames := 0, cells := 0, slots := 0, locals := 0 } (va_Pc [.ref (gK g 0)] (xB g [] sz)) (va_Qi (fun r u => r = iI ((fun (u : Unit) => 0) u) ∧ (fun (u : Unit) => True) u) (fun u t => xE g (va_A [] sz) ((fun (u : Unit) => []) u) t) (va_A [] sz)) 0 0 (va_A [] sz) := by
  refine x_enter (y := yJ0_coder_7d493) (ws := wsJ0_coder_7d493) (g := g) (sz := sz) (av := [.ref (gK g 0)]) (WS := []) (cc := cJ0_coder_7d493) (maxL := 1) (ret := some .byte) (Qc := (fun A => (va_Qi (fun r u => r = iI ((fun (u : Unit) => 0) u) ∧ (fun (u : Unit) => True) u) (fun u t => xE g A ((fun (u : Unit) => []) u) t) A))) (by decide) rfl (Nat.le_of_ble_eq_true rfl) ?_
  intro p e s m args below meth c A ls hx hb hr hml hown hts hlocks hname hC hP hD hS hA hl
  have hK := hC.1
  have hown : s.vm.findClass RJ0 = some m.cls := hown
  have hl : lv_has ls 1 [(0, .ref (gK g 0))] := hl
  obtain ⟨H, hH⟩ : ∃ z, z = s.heap := ⟨_, rfl⟩
  obtain ⟨locs, hlo⟩ : ∃ z : List Loc, z = [] := ⟨_, rfl⟩
  obtain ⟨Q9, hQ9⟩ : ∃ z, z = MQ below (va_Qi (fun r u => r = iI ((fun (u : Unit) => 0) u) ∧ (fun (u : Unit) => True) u) (fun u t => xE g A ((fun (u : Unit) => []) u) t) A) args s 0 0 A := ⟨_, rfl⟩
  have hP : va_P (gD g) vwCl [] H := by rw [hH]; exact hP
  have hS : va_S A s.heap H locs := by rw [hH, hlo]; exact hS
  have goal_ : W p l e { frames := 0, cells := 0, slots := 0, locals := 0 } s m args below meth c H locs 0 0 Q9 (F0 m 0 ls []) := by
    clear hH hlo
    refine va_gets hx hb hC.d.1 hS hown (hts (.fieldLink RJ0 38 "java/lang/String" "COMPACT_STRINGS" "Z") (List.mem_of_getElem? (i := 1) rfl)) (fun _ h9 => h9) dJ0_coder_7d493_0 ?_
    refine W.eq (g2 := F0 m 3 ls [.int (iI 1)]) rfl ?_
    refine x_if_eq (tgt := 13) hx hb (by omega) dJ0_coder_7d493_3 (by decide) (fun c_1 => ?_) (fun c_1 => ?_)
    · skip
      exact absurd c_1 (by decide)
    · skip
      refine lv_aload_n hx hb dJ0_coder_7d493_6 rfl (lv_at hl 0 rfl) ?_
      refine vk_getf hx hb (hC.d.2.2.1.1 0 (by decide)).2.1 hS hown (hts (.fieldLink RJ0 15 "java/lang/String" "coder" "B") (List.mem_of_getElem? (i := 2) rfl)) (fun _ h9 => h9) dJ0_coder_7d493_7 ?_
      refine W.eq (g2 := F0 m 10 ls [.int (iI 0)]) rfl ?_
      refine lv_goto (tgt := 14) hx hb dJ0_coder_7d493_10 (by decide) ?_
      rw [hQ9]
      exact x_iret hx hb hr hlocks hP hD hS (S := Unit) (by decide) dJ0_coder_7d493_14 () rfl trivial rfl (Nat.le_of_ble_eq_true rfl) (Nat.le_of_ble_eq_true rfl)
  rw [hH, hlo, hQ9] at goal_
  exact goal_

set_option maxHeartbeats 4000000 in
set_option maxRecDepth 100000 in
theorem c_J0_coder1 (l : Launch) (g : xg) (sz : Nat) : Met l yJ0_coder_7d493 wsJ0_coder_7d493 { frames := 0, cells := 0, slots := 0, locals := 0 } (va_Pc [.ref (gK g 1)] (xB g [] sz)) (va_Qi (fun r u => r = iI ((fun (u : Unit) => 0) u) ∧ (fun (u : Unit) => True) u) (fun u t => xE g (va_A [] sz) ((fun (u : Unit) => []) u) t) (va_A [] sz)) 0 0 (va_A [] sz) := by
  refine x_enter (y := yJ0_coder_7d493) (ws := wsJ0_coder_7d493) (g := g) (sz := sz) (av := [.ref (gK g 1)]) (WS := []) (cc := cJ0_coder_7d493) (maxL := 1) (ret := some .byte) (Qc := (fun A => (va_Qi (fun r u => r = iI ((fun (u : Unit) => 0) u) ∧ (fun (u : Unit) => True) u) (fun u t => xE g A ((fun (u : Unit) => []) u) t) A))) (by decide) rfl (Nat.le_of_ble_eq_true rfl) ?_
  intro p e s m args below meth c A ls hx hb hr hml hown hts hlocks hname hC hP hD hS hA hl
  have hK := hC.1
  have hown : s.vm.findClass RJ0 = some m.cls := hown
  have hl : lv_has ls 1 [(0, .ref (gK g 1))] := hl
  obtain ⟨H, hH⟩ : ∃ z, z = s.heap := ⟨_, rfl⟩
  obtain ⟨locs, hlo⟩ : ∃ z : List Loc, z = [] := ⟨_, rfl⟩
  obtain ⟨Q9, hQ9⟩ : ∃ z, z = MQ below (va_Qi (fun r u => r = iI ((fun (u : Unit) => 0) u) ∧ (fun (u : Unit) => True) u) (fun u t => xE g A ((fun (u : Unit) => []) u) t) A) args s 0 0 A := ⟨_, rfl⟩
  have hP : va_P (gD g) vwCl [] H := by rw [hH]; exact hP
  have hS : va_S A s.heap H locs := by rw [hH, hlo]; exact hS
  have goal_ : W p l e { frames := 0, cells := 0, slots := 0, locals := 0 } s m args below meth c H locs 0 0 Q9 (F0 m 0 ls []) := by
    clear hH hlo
    refine va_gets hx hb hC.d.1 hS hown (hts (.fieldLink RJ0 38 "java/lang/String" "COMPACT_STRINGS" "Z") (List.mem_of_getElem? (i := 1) rfl)) (fun _ h9 => h9) dJ0_coder_7d493_0 ?_
    refine W.eq (g2 := F0 m 3 ls [.int (iI 1)]) rfl ?_
    refine x_if_eq (tgt := 13) hx hb (by omega) dJ0_coder_7d493_3 (by decide) (fun c_1 => ?_) (fun c_1 => ?_)
    · skip
      exact absurd c_1 (by decide)
    · skip
      refine lv_aload_n hx hb dJ0_coder_7d493_6 rfl (lv_at hl 0 rfl) ?_
      refine vk_getf hx hb (hC.d.2.2.1.1 1 (by decide)).2.1 hS hown (hts (.fieldLink RJ0 15 "java/lang/String" "coder" "B") (List.mem_of_getElem? (i := 2) rfl)) (fun _ h9 => h9) dJ0_coder_7d493_7 ?_
      refine W.eq (g2 := F0 m 10 ls [.int (iI 0)]) rfl ?_
      refine lv_goto (tgt := 14) hx hb dJ0_coder_7d493_10 (by decide) ?_
      rw [hQ9]
      exact x_iret hx hb hr hlocks hP hD hS (S := Unit) (by decide) dJ0_coder_7d493_14 () rfl trivial rfl (Nat.le_of_ble_eq_true rfl) (Nat.le_of_ble_eq_true rfl)
  rw [hH, hlo, hQ9] at goal_
  exact goal_

set_option maxHeartbeats 4000000 in
set_option maxRecDepth 100000 in
theorem c_J0_length0 (l : Launch) (g : xg) (sz : Nat) : Met l yJ0_length_8abf5 wsJ0_length_8abf5 { frames := 1, cells := 0, slots := 0, locals := 20 } (va_Pc [.ref (gK g 0)] (xB g [] sz)) (va_Qi (fun r u => r = iI ((fun (u : Unit) => 0) u) ∧ (fun (u : Unit) => True) u) (fun u t => xE g (va_A [] sz) ((fun (u : Unit) => []) u) t) (va_A [] sz)) 0 0 (va_A [] sz) := by
  refine x_enter (y := yJ0_length_8abf5) (ws := wsJ0_length_8abf5) (g := g) (sz := sz) (av := [.ref (gK g 0)]) (WS := []) (cc := cJ0_length_8abf5) (maxL := 1) (ret := some .int) (Qc := (fun A => (va_Qi (fun r u => r = iI ((fun (u : Unit) => 0) u) ∧ (fun (u : Unit) => True) u) (fun u t => xE g A ((fun (u : Unit) => []) u) t) A))) (by decide) rfl (Nat.le_of_ble_eq_true rfl) ?_
  intro p e s m args below meth c A ls hx hb hr hml hown hts hlocks hname hC hP hD hS hA hl
  have hK := hC.1
  have hown : s.vm.findClass RJ0 = some m.cls := hown
  have hl : lv_has ls 1 [(0, .ref (gK g 0))] := hl
  obtain ⟨H, hH⟩ : ∃ z, z = s.heap := ⟨_, rfl⟩
  obtain ⟨locs, hlo⟩ : ∃ z : List Loc, z = [] := ⟨_, rfl⟩
  obtain ⟨Q9, hQ9⟩ : ∃ z, z = MQ below (va_Qi (fun r u => r = iI ((fun (u : Unit) => 0) u) ∧ (fun (u : Unit) => True) u) (fun u t => xE g A ((fun (u : Unit) => []) u) t) A) args s 0 0 A := ⟨_, rfl⟩
  have hP : va_P (gD g) vwCl [] H := by rw [hH]; exact hP
  have hS : va_S A s.heap H locs := by rw [hH, hlo]; exact hS
  have goal_ : W p l e { frames := 1, cells := 0, slots := 0, locals := 20 } s m args below meth c H locs 0 0 Q9 (F0 m 0 ls []) := by
    clear hH hlo
    refine lv_aload_n hx hb dJ0_length_8abf5_0 rfl (lv_at hl 0 rfl) ?_
    refine vk_getf hx hb (hC.d.2.2.1.1 0 (by decide)).2.2.1 hS hown (hts (.fieldLink RJ0 9 "java/lang/String" "value" "[B") (List.mem_of_getElem? (i := 1) rfl)) (fun _ h9 => h9) dJ0_length_8abf5_1 ?_
    refine W.eq (g2 := F0 m 4 ls [.ref (gV g 0)]) rfl ?_
    refine va_tlen hx hb (hC.d.2.2.1.1 0 (by decide)).2.2.2 hS (v := iI 0) (by decide) dJ0_length_8abf5_4 ?_
    refine lv_aload_n hx hb dJ0_length_8abf5_5 rfl (lv_at hl 0 rfl) ?_
    refine x_calli (S := Unit) (wc := []) (wr := []) hC hP hD hS hA [] [] [] rfl rfl (fun hpre => va_runV (As := []) (rest := [.int (iI 0)]) ⟨hx, hb, hml, hown, hts⟩ (c_J0_coder0 l g H.size ) (cwV 0 hts gJ0_length_8abf5_J0_coder_7d493 rfl rfl rfl (by decide +kernel) ⟨Nat.le_of_ble_eq_true rfl, Nat.le_of_ble_eq_true rfl⟩) ⟨xB_blind, vk_recv hC.d.2.2.1 (i := 0) (by decide) hS, hpre _⟩ rfl rfl hl.1 rfl (lv_room (Nat.le_of_ble_eq_true rfl)) dJ0_length_8abf5_6 ⟨Nat.le_of_ble_eq_true rfl, Nat.le_of_ble_eq_true rfl⟩) (fun (u : Unit) => []) rfl rfl (by decide) (fun _ => rfl) rfl (fun u v_1 H locs hv_1 pv_1 hP hD hS => ?_)
    have hP : va_P (gD g) vwCl [] H := hP
    have hD : va_D A [] := hD
    have hv_1 : v_1 = 0 := hv_1
    subst hv_1
    refine x_ishr0 hx hb dJ0_length_8abf5_9 ?_
    rw [hQ9]
    exact x_iret hx hb hr hlocks hP hD hS (S := Unit) rfl dJ0_length_8abf5_10 () rfl trivial rfl (Nat.le_of_ble_eq_true rfl) (Nat.le_of_ble_eq_true rfl)
  rw [hH, hlo, hQ9] at goal_
  exact goal_

set_option maxHeartbeats 4000000 in
set_option maxRecDepth 100000 in
theorem c_J0_length1 (l : Launch) (g : xg) (sz : Nat) : Met l yJ0_length_8abf5 wsJ0_length_8abf5 { frames := 1, cells := 0, slots := 0, locals := 20 } (va_Pc [.ref (gK g 1)] (xB g [] sz)) (va_Qi (fun r u => r = iI ((fun (u : Unit) => 1) u) ∧ (fun (u : Unit) => True) u) (fun u t => xE g (va_A [] sz) ((fun (u : Unit) => []) u) t) (va_A [] sz)) 0 0 (va_A [] sz) := by
  refine x_enter (y := yJ0_length_8abf5) (ws := wsJ0_length_8abf5) (g := g) (sz := sz) (av := [.ref (gK g 1)]) (WS := []) (cc := cJ0_length_8abf5) (maxL := 1) (ret := some .int) (Qc := (fun A => (va_Qi (fun r u => r = iI ((fun (u : Unit) => 1) u) ∧ (fun (u : Unit) => True) u) (fun u t => xE g A ((fun (u : Unit) => []) u) t) A))) (by decide) rfl (Nat.le_of_ble_eq_true rfl) ?_
  intro p e s m args below meth c A ls hx hb hr hml hown hts hlocks hname hC hP hD hS hA hl
  have hK := hC.1
  have hown : s.vm.findClass RJ0 = some m.cls := hown
  have hl : lv_has ls 1 [(0, .ref (gK g 1))] := hl
  obtain ⟨H, hH⟩ : ∃ z, z = s.heap := ⟨_, rfl⟩
  obtain ⟨locs, hlo⟩ : ∃ z : List Loc, z = [] := ⟨_, rfl⟩
  obtain ⟨Q9, hQ9⟩ : ∃ z, z = MQ below (va_Qi (fun r u => r = iI ((fun (u : Unit) => 1) u) ∧ (fun (u : Unit) => True) u) (fun u t => xE g A ((fun (u : Unit) => []) u) t) A) args s 0 0 A := ⟨_, rfl⟩
  have hP : va_P (gD g) vwCl [] H := by rw [hH]; exact hP
  have hS : va_S A s.heap H locs := by rw [hH, hlo]; exact hS
  have goal_ : W p l e { frames := 1, cells := 0, slots := 0, locals := 20 } s m args below meth c H locs 0 0 Q9 (F0 m 0 ls []) := by
    clear hH hlo
    refine lv_aload_n hx hb dJ0_length_8abf5_0 rfl (lv_at hl 0 rfl) ?_
    refine vk_getf hx hb (hC.d.2.2.1.1 1 (by decide)).2.2.1 hS hown (hts (.fieldLink RJ0 9 "java/lang/String" "value" "[B") (List.mem_of_getElem? (i := 1) rfl)) (fun _ h9 => h9) dJ0_length_8abf5_1 ?_
    refine W.eq (g2 := F0 m 4 ls [.ref (gV g 1)]) rfl ?_
    refine va_tlen hx hb (hC.d.2.2.1.1 1 (by decide)).2.2.2 hS (v := iI 1) (by decide) dJ0_length_8abf5_4 ?_
    refine lv_aload_n hx hb dJ0_length_8abf5_5 rfl (lv_at hl 0 rfl) ?_
    refine x_calli (S := Unit) (wc := []) (wr := []) hC hP hD hS hA [] [] [] rfl rfl (fun hpre => va_runV (As := []) (rest := [.int (iI 1)]) ⟨hx, hb, hml, hown, hts⟩ (c_J0_coder1 l g H.size ) (cwV 0 hts gJ0_length_8abf5_J0_coder_7d493 rfl rfl rfl (by decide +kernel) ⟨Nat.le_of_ble_eq_true rfl, Nat.le_of_ble_eq_true rfl⟩) ⟨xB_blind, vk_recv hC.d.2.2.1 (i := 1) (by decide) hS, hpre _⟩ rfl rfl hl.1 rfl (lv_room (Nat.le_of_ble_eq_true rfl)) dJ0_length_8abf5_6 ⟨Nat.le_of_ble_eq_true rfl, Nat.le_of_ble_eq_true rfl⟩) (fun (u : Unit) => []) rfl rfl (by decide) (fun _ => rfl) rfl (fun u v_1 H locs hv_1 pv_1 hP hD hS => ?_)
    have hP : va_P (gD g) vwCl [] H := hP
    have hD : va_D A [] := hD
    have hv_1 : v_1 = 0 := hv_1
    subst hv_1
    refine x_ishr0 hx hb dJ0_length_8abf5_9 ?_
    rw [hQ9]
    exact x_iret hx hb hr hlocks hP hD hS (S := Unit) rfl dJ0_length_8abf5_10 () rfl trivial rfl (Nat.le_of_ble_eq_true rfl) (Nat.le_of_ble_eq_true rfl)
  rw [hH, hlo, hQ9] at goal_
  exact goal_

set_option maxHeartbeats 4000000 in
set_option maxRecDepth 100000 in
theorem c_J8_newLength_cabcc (l : Launch) (g : xg) (sz : Nat) (ol mg pg : Int) (hol : 0 ≤ ol ∧ ol ≤ 1000) (hmg : 1 ≤ mg ∧ mg ≤ 1000) (hpg : 0 ≤ pg ∧ pg ≤ 2000) : Met l yJ8_newLength_cabcc wsJ8_newLength_cabcc { frames := 1, cells := 0, slots := 0, locals := 22 } (va_Pc [.int (iI ol), .int (iI mg), .int (iI pg)] (xB g [] sz)) (va_Qi (fun r u => r = iI ((fun (u : Unit) => ol + mx mg pg) u) ∧ (fun (u : Unit) => True) u) (fun u t => xE g (va_A [] sz) ((fun (u : Unit) => []) u) t) (va_A [] sz)) 0 0 (va_A [] sz) := by
  refine x_enter (y := yJ8_newLength_cabcc) (ws := wsJ8_newLength_cabcc) (g := g) (sz := sz) (av := [.int (iI ol), .int (iI mg), .int (iI pg)]) (WS := []) (cc := cJ8_newLength_cabcc) (maxL := 4) (ret := some .int) (Qc := (fun A => (va_Qi (fun r u => r = iI ((fun (u : Unit) => ol + mx mg pg) u) ∧ (fun (u : Unit) => True) u) (fun u t => xE g A ((fun (u : Unit) => []) u) t) A))) (by decide) rfl (Nat.le_of_ble_eq_true rfl) ?_
  intro p e s m args below meth c A ls hx hb hr hml hown hts hlocks hname hC hP hD hS hA hl
  have hK := hC.1
  have hown : s.vm.findClass RJ8 = some m.cls := hown
  have hl : lv_has ls 4 [(0, .int (iI ol)), (1, .int (iI mg)), (2, .int (iI pg))] := hl
  obtain ⟨H, hH⟩ : ∃ z, z = s.heap := ⟨_, rfl⟩
  obtain ⟨locs, hlo⟩ : ∃ z : List Loc, z = [] := ⟨_, rfl⟩
  obtain ⟨Q9, hQ9⟩ : ∃ z, z = MQ below (va_Qi (fun r u => r = iI ((fun (u : Unit) => ol + mx mg pg) u) ∧ (fun (u : Unit) => True) u) (fun u t => xE g A ((fun (u : Unit) => []) u) t) A) args s 0 0 A := ⟨_, rfl⟩
  have hP : va_P (gD g) vwCl [] H := by rw [hH]; exact hP
  have hS : va_S A s.heap H locs := by rw [hH, hlo]; exact hS
  have goal_ : W p l e { frames := 1, cells := 0, slots := 0, locals := 22 } s m args below meth c H locs 0 0 Q9 (F0 m 0 ls []) := by
    clear hH hlo
    refine lv_iload_n hx hb dJ8_newLength_cabcc_0 rfl (lv_at hl 0 rfl) ?_
    refine lv_iload_n hx hb dJ8_newLength_cabcc_1 rfl (lv_at hl 1 rfl) ?_
    refine lv_iload_n hx hb dJ8_newLength_cabcc_2 rfl (lv_at hl 2 rfl) ?_
    refine x_max hx hb (hml.trans hl.1.symm) hown (hts (.methodLink RJ8 194 Lib.Math.max.name) (List.mem_of_getElem? (i := 1) rfl)) (hts (.static Lib.Math.max.name) (List.mem_of_getElem? (i := 2) rfl)) (hts (.initialized "java/lang/Math") (List.mem_of_getElem? (i := 3) rfl)) (hts (.code Lib.Math.max.name Lib.Math.max.code 2 (some .int)) (List.mem_of_getElem? (i := 4) rfl)) (Nat.le_of_ble_eq_true rfl) (Nat.le_of_ble_eq_true rfl) (Nat.le_of_ble_eq_true rfl) (Nat.le_of_ble_eq_true rfl) (by omega) (by omega) dJ8_newLength_cabcc_3 (fun v_1 hv_1 => ?_)
    have bv_1 := mx_r mg pg hv_1
    refine x_iadd hx hb dJ8_newLength_cabcc_6 ?_
    obtain ⟨v_2, ev_2⟩ : ∃ z : Int, z = ol + v_1 := ⟨_, rfl⟩
    refine x_top ev_2.symm ?_
    refine lv_istore_n (lv' := [(3, .int (iI v_2)), (0, .int (iI ol)), (1, .int (iI mg)), (2, .int (iI pg))]) hx hb dJ8_newLength_cabcc_7 rfl hl (by decide) rfl (fun ls hl => ?_)
    refine x_iconst hx hb dJ8_newLength_cabcc_8 ?_
    refine lv_iload_n hx hb dJ8_newLength_cabcc_9 rfl (lv_at hl 0 rfl) ?_
    refine x_cmp_ge (tgt := 21) hx hb (by omega) (by omega) dJ8_newLength_cabcc_10 (by decide) (fun c_3 => ?_) (fun c_3 => ?_)
    · skip
      exfalso; omega
    · skip
      refine lv_iload_n hx hb dJ8_newLength_cabcc_13 rfl (lv_at hl 0 rfl) ?_
      refine x_ldc (v := 2147483639) hx hb hown (hts (.constant RJ8 200 (2147483639)) (List.mem_of_getElem? (i := 5) rfl)) (by decide) dJ8_newLength_cabcc_14 ?_
      refine x_cmp_gt (tgt := 21) hx hb (by omega) (by omega) dJ8_newLength_cabcc_16 (by decide) (fun c_4 => ?_) (fun c_4 => ?_)
      · skip
        exfalso; omega
      · skip
        refine lv_iload_n hx hb dJ8_newLength_cabcc_19 rfl (lv_at hl 0 rfl) ?_
        rw [hQ9]
        exact x_iret hx hb hr hlocks hP hD hS (S := Unit) rfl dJ8_newLength_cabcc_20 () (by
            first
            | (
               first | rfl | omega | (subst_vars; first | rfl | omega))
            | fail "q9") trivial rfl (Nat.le_of_ble_eq_true rfl) (Nat.le_of_ble_eq_true rfl)
  rw [hH, hlo, hQ9] at goal_
  exact goal_

set_option maxHeartbeats 4000000 in
set_option maxRecDepth 100000 in
theorem c_J5_newCapacity_0f7a4 (l : Launch) (g : xg) (sz : Nat) (aB aV : Nat) (ml ct mn_ : Int) (bf : Int → Int) (cp : Nat) (hcp : 16 ≤ cp ∧ cp ≤ 100) (hmn : (cp : Int) < mn_ ∧ mn_ ≤ 50) : Met l yJ5_newCapacity_0f7a4 wsJ5_newCapacity_0f7a4 { frames := 2, cells := 0, slots := 0, locals := 45 } (va_Pc [.ref aB, .int (iI mn_)] (xB g [(aB, .inr (1, [.ref aV, .int (iI 0), .int (iI ml), .int (iI ct)])), (aV, .inl (gB g, cp, .inl (ar bf)))] sz)) (va_Qi (fun r u => r = iI ((fun (u : Unit) => mx mn_ (2 * (cp : Int) + 2)) u) ∧ (fun (u : Unit) => (cp : Int) < (mx mn_ (2 * (cp : Int) + 2)) ∧ (mx mn_ (2 * (cp : Int) + 2)) ≤ 100) u) (fun u t => xE g (va_A [(aB, .inr (1, [.ref aV, .int (iI 0), .int (iI ml), .int (iI ct)])), (aV, .inl (gB g, cp, .inl (ar bf)))] sz) ((fun (u : Unit) => [(aB, .inr (1, [.ref aV, .int (iI 0), .int (iI ml), .int (iI ct)])), (aV, .inl (gB g, cp, .inl (ar bf)))]) u) t) (va_A [(aB, .inr (1, [.ref aV, .int (iI 0), .int (iI ml), .int (iI ct)])), (aV, .inl (gB g, cp, .inl (ar bf)))] sz)) 0 0 (va_A [(aB, .inr (1, [.ref aV, .int (iI 0), .int (iI ml), .int (iI ct)])), (aV, .inl (gB g, cp, .inl (ar bf)))] sz) := by
  refine x_enter (y := yJ5_newCapacity_0f7a4) (ws := wsJ5_newCapacity_0f7a4) (g := g) (sz := sz) (av := [.ref aB, .int (iI mn_)]) (WS := [(aB, .inr (1, [.ref aV, .int (iI 0), .int (iI ml), .int (iI ct)])), (aV, .inl (gB g, cp, .inl (ar bf)))]) (cc := cJ5_newCapacity_0f7a4) (maxL := 6) (ret := some .int) (Qc := (fun A => (va_Qi (fun r u => r = iI ((fun (u : Unit) => mx mn_ (2 * (cp : Int) + 2)) u) ∧ (fun (u : Unit) => (cp : Int) < (mx mn_ (2 * (cp : Int) + 2)) ∧ (mx mn_ (2 * (cp : Int) + 2)) ≤ 100) u) (fun u t => xE g A ((fun (u : Unit) => [(aB, .inr (1, [.ref aV, .int (iI 0), .int (iI ml), .int (iI ct)])), (aV, .inl (gB g, cp, .inl (ar bf)))]) u) t) A))) (by decide) rfl (Nat.le_of_ble_eq_true rfl) ?_
  intro p e s m args below meth c A ls hx hb hr hml hown hts hlocks hname hC hP hD hS hA hl
  have hK := hC.1
  have hown : s.vm.findClass RJ5 = some m.cls := hown
  have hinJ4 : ∀ w ∈ u_ws RJ4 TJ4 4, w ∈ wsJ5_newCapacity_0f7a4 := by decide +kernel
  have hl : lv_has ls 6 [(0, .ref aB), (1, .int (iI mn_))] := hl
  obtain ⟨H, hH⟩ : ∃ z, z = s.heap := ⟨_, rfl⟩
  obtain ⟨locs, hlo⟩ : ∃ z : List Loc, z = [] := ⟨_, rfl⟩
  obtain ⟨Q9, hQ9⟩ : ∃ z, z = MQ below (va_Qi (fun r u => r = iI ((fun (u : Unit) => mx mn_ (2 * (cp : Int) + 2)) u) ∧ (fun (u : Unit) => (cp : Int) < (mx mn_ (2 * (cp : Int) + 2)) ∧ (mx mn_ (2 * (cp : Int) + 2)) ≤ 100) u) (fun u t => xE g A ((fun (u : Unit) => [(aB, .inr (1, [.ref aV, .int (iI 0), .int (iI ml), .int (iI ct)])), (aV, .inl (gB g, cp, .inl (ar bf)))]) u) t) A) args s 0 0 A := ⟨_, rfl⟩
  have hP : va_P (gD g) vwCl [(aB, .inr (1, [.ref aV, .int (iI 0), .int (iI ml), .int (iI ct)])), (aV, .inl (gB g, cp, .inl (ar bf)))] H := by rw [hH]; exact hP
  have hS : va_S A s.heap H locs := by rw [hH, hlo]; exact hS
  have goal_ : W p l e { frames := 2, cells := 0, slots := 0, locals := 45 } s m args below meth c H locs 0 0 Q9 (F0 m 0 ls []) := by
    clear hH hlo
    refine lv_aload_n hx hb dJ5_newCapacity_0f7a4_0 rfl (lv_at hl 0 rfl) ?_
    refine va_get (D := gD g) (ci := 1) (v := .ref aV) (C := RJ4) (T := TJ4) (N := 4) hx hb hts hinJ4 hown hK hP 0 rfl rfl 0 (by decide) (hts (.fieldLink RJ5 15 "java/lang/AbstractStringBuilder" "value" "[B") (List.mem_of_getElem? (i := 1) rfl)) (fun _ h9 => h9) rfl dJ5_newCapacity_0f7a4_1 ?_
    refine x_balen hx hb hK hP 1 rfl dJ5_newCapacity_0f7a4_4 ?_
    obtain ⟨v_1, ev_1⟩ : ∃ z : Int, z = (cp : Int) := ⟨_, rfl⟩
    refine x_top ev_1.symm ?_
    refine lv_istore_n (lv' := [(2, .int (iI v_1)), (0, .ref aB), (1, .int (iI mn_))]) hx hb dJ5_newCapacity_0f7a4_5 rfl hl (by decide) rfl (fun ls hl => ?_)
    refine lv_iload_n hx hb dJ5_newCapacity_0f7a4_6 rfl (lv_at hl 2 rfl) ?_
    refine lv_aload_n hx hb dJ5_newCapacity_0f7a4_7 rfl (lv_at hl 1 rfl) ?_
    refine va_get (D := gD g) (ci := 1) (v := .int (iI 0)) (C := RJ4) (T := TJ4) (N := 4) hx hb hts hinJ4 hown hK hP 0 rfl rfl 1 (by decide) (hts (.fieldLink RJ5 22 "java/lang/AbstractStringBuilder" "coder" "B") (List.mem_of_getElem? (i := 2) rfl)) (fun _ h9 => h9) rfl dJ5_newCapacity_0f7a4_8 ?_
    refine x_ishl0 hx hb dJ5_newCapacity_0f7a4_11 ?_
    refine lv_istore_n (lv' := [(3, .int (iI mn_)), (2, .int (iI v_1)), (0, .ref aB), (1, .int (iI mn_))]) hx hb dJ5_newCapacity_0f7a4_12 rfl hl (by decide) rfl (fun ls hl => ?_)
    refine lv_iload_n hx hb dJ5_newCapacity_0f7a4_13 rfl (lv_at hl 0 rfl) ?_
    refine lv_iload_n hx hb dJ5_newCapacity_0f7a4_14 rfl (lv_at hl 1 rfl) ?_
    refine x_isub hx hb dJ5_newCapacity_0f7a4_15 ?_
    obtain ⟨v_2, ev_2⟩ : ∃ z : Int, z = mn_ - v_1 := ⟨_, rfl⟩
    refine x_top ev_2.symm ?_
    refine lv_istore (lv' := [(4, .int (iI v_2)), (3, .int (iI mn_)), (2, .int (iI v_1)), (0, .ref aB), (1, .int (iI mn_))]) hx hb dJ5_newCapacity_0f7a4_16 hl (by decide) rfl (fun ls hl => ?_)
    refine lv_iload_n hx hb dJ5_newCapacity_0f7a4_18 rfl (lv_at hl 2 rfl) ?_
    refine lv_iload hx hb dJ5_newCapacity_0f7a4_19 (lv_at hl 0 rfl) ?_
    refine lv_iload_n hx hb dJ5_newCapacity_0f7a4_21 rfl (lv_at hl 2 rfl) ?_
    refine x_iconst hx hb dJ5_newCapacity_0f7a4_22 ?_
    refine lv_aload_n hx hb dJ5_newCapacity_0f7a4_23 rfl (lv_at hl 3 rfl) ?_
    refine va_get (D := gD g) (ci := 1) (v := .int (iI 0)) (C := RJ4) (T := TJ4) (N := 4) hx hb hts hinJ4 hown hK hP 0 rfl rfl 1 (by decide) (hts (.fieldLink RJ5 22 "java/lang/AbstractStringBuilder" "coder" "B") (List.mem_of_getElem? (i := 2) rfl)) (fun _ h9 => h9) rfl dJ5_newCapacity_0f7a4_24 ?_
    refine x_ishl0 hx hb dJ5_newCapacity_0f7a4_27 ?_
    refine x_iadd hx hb dJ5_newCapacity_0f7a4_28 ?_
    refine x_calli (S := Unit) (wc := []) (wr := [(aB, .inr (1, [.ref aV, .int (iI 0), .int (iI ml), .int (iI ct)])), (aV, .inl (gB g, cp, .inl (ar bf)))]) hC hP hD hS hA [] [0, 1] [0, 1] rfl rfl (fun hpre => va_runS (As := [.int (iI v_1), .int (iI v_2), .int (iI (v_1 + 2))]) (rest := []) ⟨hx, hb, hml, hown, hts⟩ (c_J8_newLength_cabcc l g H.size v_1 v_2 (v_1 + 2) (by first | (first | assumption | omega | exact bnd_up (by assumption) (by omega) (by omega)) | fail "q8") (by first | (first | assumption | omega | exact bnd_up (by assumption) (by omega) (by omega)) | fail "q8") (by first | (first | assumption | omega | exact bnd_up (by assumption) (by omega) (by omega)) | fail "q8")) (va_cwS 3 hts gJ5_newCapacity_0f7a4_J8_newLength_cabcc rfl rfl rfl (by decide +kernel) ⟨Nat.le_of_ble_eq_true rfl, Nat.le_of_ble_eq_true rfl⟩) ⟨xB_blind, hpre _⟩ rfl rfl hl.1 rfl (lv_room (Nat.le_of_ble_eq_true rfl)) dJ5_newCapacity_0f7a4_29 ⟨Nat.le_of_ble_eq_true rfl, Nat.le_of_ble_eq_true rfl⟩) (fun (u : Unit) => [(aB, .inr (1, [.ref aV, .int (iI 0), .int (iI ml), .int (iI ct)])), (aV, .inl (gB g, cp, .inl (ar bf)))]) rfl rfl (by decide) (fun _ => rfl) rfl (fun u v_3 H locs hv_3 pv_3 hP hD hS => ?_)
    have hP : va_P (gD g) vwCl [(aB, .inr (1, [.ref aV, .int (iI 0), .int (iI ml), .int (iI ct)])), (aV, .inl (gB g, cp, .inl (ar bf)))] H := hP
    have hD : va_D A [(aB, .inr (1, [.ref aV, .int (iI 0), .int (iI ml), .int (iI ct)])), (aV, .inl (gB g, cp, .inl (ar bf)))] := hD
    have hv_3 : v_3 = v_1 + mx v_2 (v_1 + 2) := hv_3
    have r2 := mx_r (mn_ - (cp : Int)) ((cp : Int) + 2) rfl
    have r3 : v_3 = (cp : Int) + mx (mn_ - (cp : Int)) ((cp : Int) + 2) := by subst_vars; rfl
    refine lv_istore (lv' := [(5, .int (iI v_3)), (4, .int (iI v_2)), (3, .int (iI mn_)), (2, .int (iI v_1)), (0, .ref aB), (1, .int (iI mn_))]) hx hb dJ5_newCapacity_0f7a4_32 hl (by decide) rfl (fun ls hl => ?_)
    refine lv_iload hx hb dJ5_newCapacity_0f7a4_34 (lv_at hl 0 rfl) ?_
    refine x_ldc (v := 2147483647) hx hb hown (hts (.constant RJ5 39 (2147483647)) (List.mem_of_getElem? (i := 3) rfl)) (by decide) dJ5_newCapacity_0f7a4_36 ?_
    refine x_cmp_ne (tgt := 51) hx hb (by omega) (by omega) dJ5_newCapacity_0f7a4_38 (by decide) (fun c_4 => ?_) (fun c_4 => ?_)
    · skip
      refine lv_iload hx hb dJ5_newCapacity_0f7a4_51 (lv_at hl 0 rfl) ?_
      refine lv_aload_n hx hb dJ5_newCapacity_0f7a4_53 rfl (lv_at hl 4 rfl) ?_
      refine va_get (D := gD g) (ci := 1) (v := .int (iI 0)) (C := RJ4) (T := TJ4) (N := 4) hx hb hts hinJ4 hown hK hP 0 rfl rfl 1 (by decide) (hts (.fieldLink RJ5 22 "java/lang/AbstractStringBuilder" "coder" "B") (List.mem_of_getElem? (i := 2) rfl)) (fun _ h9 => h9) rfl dJ5_newCapacity_0f7a4_54 ?_
      refine x_ishr0 hx hb dJ5_newCapacity_0f7a4_57 ?_
      rw [hQ9]
      exact x_iret hx hb hr hlocks hP hD hS (S := Unit) rfl dJ5_newCapacity_0f7a4_58 () (by
          first
          | (
             have r1 := mx_r mn_ (2 * (cp : Int) + 2) rfl
             unfold mx at *
             omega)
          | fail "q9") (by
          first
          | (
             have r1 := mx_r mn_ (2 * (cp : Int) + 2) rfl
             omega)
          | fail "q9") rfl (Nat.le_of_ble_eq_true rfl) (Nat.le_of_ble_eq_true rfl)
    · skip
      exfalso; omega
  rw [hH, hlo, hQ9] at goal_
  exact goal_

set_option maxHeartbeats 4000000 in
set_option maxRecDepth 100000 in
theorem c_J7_copyOf_9075b (l : Launch) (g : xg) (sz : Nat) (aV : Nat) (nl : Int) (bf : Int → Int) (cp : Nat) (hcp : 16 ≤ cp ∧ cp ≤ 100) (hnl : (cp : Int) < nl ∧ nl ≤ 100) (hbf : bnd bf 0 127) : Met l yJ7_copyOf_9075b wsJ7_copyOf_9075b { frames := 1, cells := 1, slots := 100, locals := 60 } (va_Pc [.ref aV, .int (iI nl)] (xB g [(aV, .inl (gB g, cp, .inl (ar bf)))] sz)) (va_Qr (fun (u : Nat) => True) (fun u a t => a = (fun (u : Nat) => u) u ∧ xE g (va_A [(aV, .inl (gB g, cp, .inl (ar bf)))] sz) ((fun (u : Nat) => [(aV, .inl (gB g, cp, .inl (ar bf))), (u, .inl (gB g, nl.toNat, .inl (ar (ovr (fun _ => 0) (cp : Int) bf))))]) u) t) (va_A [(aV, .inl (gB g, cp, .inl (ar bf)))] sz)) 1 100 (va_A [(aV, .inl (gB g, cp, .inl (ar bf)))] sz) := by
  refine x_enter (y := yJ7_copyOf_9075b) (ws := wsJ7_copyOf_9075b) (g := g) (sz := sz) (av := [.ref aV, .int (iI nl)]) (WS := [(aV, .inl (gB g, cp, .inl (ar bf)))]) (cc := cJ7_copyOf_9075b) (maxL := 3) (ret := some (.array .byte)) (Qc := (fun A => (va_Qr (fun (u : Nat) => True) (fun u a t => a = (fun (u : Nat) => u) u ∧ xE g A ((fun (u : Nat) => [(aV, .inl (gB g, cp, .inl (ar bf))), (u, .inl (gB g, nl.toNat, .inl (ar (ovr (fun _ => 0) (cp : Int) bf))))]) u) t) A))) (by decide) rfl (Nat.le_of_ble_eq_true rfl) ?_
  intro p e s m args below meth c A ls hx hb hr hml hown hts hlocks hname hC hP hD hS hA hl
  have hK := hC.1
  have hown : s.vm.findClass RJ7 = some m.cls := hown
  have hl : lv_has ls 3 [(0, .ref aV), (1, .int (iI nl))] := hl
  obtain ⟨H, hH⟩ : ∃ z, z = s.heap := ⟨_, rfl⟩
  obtain ⟨locs, hlo⟩ : ∃ z : List Loc, z = [] := ⟨_, rfl⟩
  obtain ⟨Q9, hQ9⟩ : ∃ z, z = MQ below (va_Qr (fun (u : Nat) => True) (fun u a t => a = (fun (u : Nat) => u) u ∧ xE g A ((fun (u : Nat) => [(aV, .inl (gB g, cp, .inl (ar bf))), (u, .inl (gB g, nl.toNat, .inl (ar (ovr (fun _ => 0) (cp : Int) bf))))]) u) t) A) args s 1 100 A := ⟨_, rfl⟩
  have hP : va_P (gD g) vwCl [(aV, .inl (gB g, cp, .inl (ar bf)))] H := by rw [hH]; exact hP
  have hS : va_S A s.heap H locs := by rw [hH, hlo]; exact hS
  have goal_ : W p l e { frames := 1, cells := 1, slots := 100, locals := 60 } s m args below meth c H locs 0 0 Q9 (F0 m 0 ls []) := by
    clear hH hlo
    refine lv_iload_n hx hb dJ7_copyOf_9075b_0 rfl (lv_at hl 1 rfl) ?_
    refine lv_aload_n hx hb dJ7_copyOf_9075b_1 rfl (lv_at hl 0 rfl) ?_
    refine x_balen hx hb hK hP 0 rfl dJ7_copyOf_9075b_2 ?_
    refine x_cmp_ne (tgt := 14) hx hb (by omega) (by omega) dJ7_copyOf_9075b_3 (by decide) (fun c_1 => ?_) (fun c_1 => ?_)
    · skip
      refine lv_iload_n hx hb dJ7_copyOf_9075b_14 rfl (lv_at hl 1 rfl) ?_
      refine x_newB hx hb (hts (.arrayClass .byte) (List.mem_of_getElem? (i := 7) rfl)) hC hP hD hS hA (nl.toNat) 100 (by omega) (by omega) (by omega) (Nat.le_of_ble_eq_true rfl) (Nat.le_of_ble_eq_true rfl) dJ7_copyOf_9075b_15 (fun q_2 H hP hD hS => ?_)
      have hP : va_P (gD g) vwCl [(aV, .inl (gB g, cp, .inl (ar bf))), (q_2, .inl (gB g, nl.toNat, .inl (ar (fun _ => 0))))] H := hP
      have hD : va_D A [(aV, .inl (gB g, cp, .inl (ar bf))), (q_2, .inl (gB g, nl.toNat, .inl (ar (fun _ => 0))))] := hD
      refine lv_astore_n (lv' := [(2, .ref q_2), (0, .ref aV), (1, .int (iI nl))]) hx hb dJ7_copyOf_9075b_17 rfl hl (by decide) rfl (fun ls hl => ?_)
      refine lv_aload_n hx hb dJ7_copyOf_9075b_18 rfl (lv_at hl 1 rfl) ?_
      refine x_iconst hx hb dJ7_copyOf_9075b_19 ?_
      refine lv_aload_n hx hb dJ7_copyOf_9075b_20 rfl (lv_at hl 0 rfl) ?_
      refine x_iconst hx hb dJ7_copyOf_9075b_21 ?_
      refine lv_aload_n hx hb dJ7_copyOf_9075b_22 rfl (lv_at hl 1 rfl) ?_
      refine x_balen hx hb hK hP 0 rfl dJ7_copyOf_9075b_23 ?_
      refine lv_iload_n hx hb dJ7_copyOf_9075b_24 rfl (lv_at hl 2 rfl) ?_
      refine x_min hx hb (hml.trans hl.1.symm) hown (hts (.methodLink RJ7 304 Lib.Math.min.name) (List.mem_of_getElem? (i := 8) rfl)) (hts (.static Lib.Math.min.name) (List.mem_of_getElem? (i := 9) rfl)) (hts (.initialized "java/lang/Math") (List.mem_of_getElem? (i := 10) rfl)) (hts (.code Lib.Math.min.name Lib.Math.min.code 2 (some .int)) (List.mem_of_getElem? (i := 11) rfl)) (Nat.le_of_ble_eq_true rfl) (Nat.le_of_ble_eq_true rfl) (Nat.le_of_ble_eq_true rfl) (Nat.le_of_ble_eq_true rfl) (by omega) (by omega) dJ7_copyOf_9075b_25 (fun v_3 hv_3 => ?_)
      have bv_3 := mn_r (cp : Int) nl hv_3
      refine x_copyB hx hb (hml.trans hl.1.symm) hown (hts (.methodLink RJ7 150 arraycopyName) (List.mem_of_getElem? (i := 12) rfl)) (hts (.native arraycopyName) (List.mem_of_getElem? (i := 13) rfl)) (hts (.static arraycopyName) (List.mem_of_getElem? (i := 14) rfl)) (hts (.initialized "java/lang/System") (List.mem_of_getElem? (i := 15) rfl)) hK hP hD hS 0 1 rfl rfl (by omega) (by omega) (by omega) (by omega) (by omega) hbf (Nat.le_of_ble_eq_true rfl) (by decide) dJ7_copyOf_9075b_28 (fun H locs hP hD hS => ?_)
      have hP : va_P (gD g) vwCl [(aV, .inl (gB g, cp, .inl (ar bf))), (q_2, .inl (gB g, nl.toNat, .inl (ar (ovr (fun _ => 0) v_3 bf))))] H := hP
      have hD : va_D A [(aV, .inl (gB g, cp, .inl (ar bf))), (q_2, .inl (gB g, nl.toNat, .inl (ar (ovr (fun _ => 0) v_3 bf))))] := hD
      refine lv_aload_n hx hb dJ7_copyOf_9075b_31 rfl (lv_at hl 0 rfl) ?_
      have q_4 : (ovr (fun _ => 0) (cp : Int) bf) = (ovr (fun _ => 0) v_3 bf) := by
        first
        | (
           first | rfl | (subst_vars; rw [show mn (cp : Int) nl = (cp : Int) by have q := mn_r (cp : Int) nl rfl; omega]))
        | fail "q9"
      have hw_5 := (congrArg (fun (z0 : Int → Int) => ([(aV, .inl (gB g, cp, .inl (ar bf))), (q_2, .inl (gB g, nl.toNat, .inl (ar z0)))] : va_W)) q_4.symm)
      rw [hQ9]
      exact x_aret hx hb hr (Or.inr ⟨_, rfl⟩) hlocks hP hD hS (S := Nat) (adr := (fun (u : Nat) => u)) dJ7_copyOf_9075b_32 q_2 rfl trivial hw_5 (Nat.le_of_ble_eq_true rfl) (Nat.le_of_ble_eq_true rfl)
    · skip
      exfalso; omega
  rw [hH, hlo, hQ9] at goal_
  exact goal_

set_option maxHeartbeats 4000000 in
set_option maxRecDepth 100000 in
theorem c_J5_ensureCapacityInternal_d00df (l : Launch) (g : xg) (sz : Nat) (aB aV : Nat) (ml ct mn_ : Int) (bf : Int → Int) (cp : Nat) (hcp : 16 ≤ cp ∧ cp ≤ 100) (hmn : 0 ≤ mn_ ∧ mn_ ≤ 50) (hbf : bnd bf 0 127) : Met l yJ5_ensureCapacityInternal_d00df wsJ5_ensureCapacityInternal_d00df { frames := 3, cells := 1, slots := 100, locals := 82 } (va_Pc [.ref aB, .int (iI mn_)] (xB g [(aB, .inr (1, [.ref aV, .int (iI 0), .int (iI ml), .int (iI ct)])), (aV, .inl (gB g, cp, .inl (ar bf)))] sz)) (va_Qv (fun (u : Nat × Nat × (Int → Int)) => ((16 ≤ u.2.1 ∧ u.2.1 ≤ 100) ∧ mn_ ≤ (u.2.1 : Int)) ∧ (∀ j : Int, 0 ≤ j → j < (cp : Int) → u.2.2 j = bf j) ∧ bnd u.2.2 0 127) (fun u t => xE g (va_A [(aB, .inr (1, [.ref aV, .int (iI 0), .int (iI ml), .int (iI ct)])), (aV, .inl (gB g, cp, .inl (ar bf)))] sz) ((fun (u : Nat × Nat × (Int → Int)) => [(aB, .inr (1, [.ref u.1, .int (iI 0), .int (iI ml), .int (iI ct)])), (u.1, .inl (gB g, u.2.1, .inl (ar u.2.2)))]) u) t) (va_A [(aB, .inr (1, [.ref aV, .int (iI 0), .int (iI ml), .int (iI ct)])), (aV, .inl (gB g, cp, .inl (ar bf)))] sz)) 1 100 (va_A [(aB, .inr (1, [.ref aV, .int (iI 0), .int (iI ml), .int (iI ct)])), (aV, .inl (gB g, cp, .inl (ar bf)))] sz) := by
  refine x_enter (y := yJ5_ensureCapacityInternal_d00df) (ws := wsJ5_ensureCapacityInternal_d00df) (g := g) (sz := sz) (av := [.ref aB, .int (iI mn_)]) (WS := [(aB, .inr (1, [.ref aV, .int (iI 0), .int (iI ml), .int (iI ct)])), (aV, .inl (gB g, cp, .inl (ar bf)))]) (cc := cJ5_ensureCapacityInternal_d00df) (maxL := 3) (ret := none) (Qc := (fun A => (va_Qv (fun (u : Nat × Nat × (Int → Int)) => ((16 ≤ u.2.1 ∧ u.2.1 ≤ 100) ∧ mn_ ≤ (u.2.1 : Int)) ∧ (∀ j : Int, 0 ≤ j → j < (cp : Int) → u.2.2 j = bf j) ∧ bnd u.2.2 0 127) (fun u t => xE g A ((fun (u : Nat × Nat × (Int → Int)) => [(aB, .inr (1, [.ref u.1, .int (iI 0), .int (iI ml), .int (iI ct)])), (u.1, .inl (gB g, u.2.1, .inl (ar u.2.2)))]) u) t) A))) (by decide) rfl (Nat.le_of_ble_eq_true rfl) ?_
  intro p e s m args below meth c A ls hx hb hr hml hown hts hlocks hname hC hP hD hS hA hl
  have hK := hC.1
  have hown : s.vm.findClass RJ5 = some m.cls := hown
  have hinJ4 : ∀ w ∈ u_ws RJ4 TJ4 4, w ∈ wsJ5_ensureCapacityInternal_d00df := by decide +kernel
  have hl : lv_has ls 3 [(0, .ref aB), (1, .int (iI mn_))] := hl
  obtain ⟨H, hH⟩ : ∃ z, z = s.heap := ⟨_, rfl⟩
  obtain ⟨locs, hlo⟩ : ∃ z : List Loc, z = [] := ⟨_, rfl⟩
  obtain ⟨Q9, hQ9⟩ : ∃ z, z = MQ below (va_Qv (fun (u : Nat × Nat × (Int → Int)) => ((16 ≤ u.2.1 ∧ u.2.1 ≤ 100) ∧ mn_ ≤ (u.2.1 : Int)) ∧ (∀ j : Int, 0 ≤ j → j < (cp : Int) → u.2.2 j = bf j) ∧ bnd u.2.2 0 127) (fun u t => xE g A ((fun (u : Nat × Nat × (Int → Int)) => [(aB, .inr (1, [.ref u.1, .int (iI 0), .int (iI ml), .int (iI ct)])), (u.1, .inl (gB g, u.2.1, .inl (ar u.2.2)))]) u) t) A) args s 1 100 A := ⟨_, rfl⟩
  have hP : va_P (gD g) vwCl [(aB, .inr (1, [.ref aV, .int (iI 0), .int (iI ml), .int (iI ct)])), (aV, .inl (gB g, cp, .inl (ar bf)))] H := by rw [hH]; exact hP
  have hS : va_S A s.heap H locs := by rw [hH, hlo]; exact hS
  have goal_ : W p l e { frames := 3, cells := 1, slots := 100, locals := 82 } s m args below meth c H locs 0 0 Q9 (F0 m 0 ls []) := by
    clear hH hlo
    refine lv_aload_n hx hb dJ5_ensureCapacityInternal_d00df_0 rfl (lv_at hl 0 rfl) ?_
    refine va_get (D := gD g) (ci := 1) (v := .ref aV) (C := RJ4) (T := TJ4) (N := 4) hx hb hts hinJ4 hown hK hP 0 rfl rfl 0 (by decide) (hts (.fieldLink RJ5 15 "java/lang/AbstractStringBuilder" "value" "[B") (List.mem_of_getElem? (i := 1) rfl)) (fun _ h9 => h9) rfl dJ5_ensureCapacityInternal_d00df_1 ?_
    refine x_balen hx hb hK hP 1 rfl dJ5_ensureCapacityInternal_d00df_4 ?_
    refine lv_aload_n hx hb dJ5_ensureCapacityInternal_d00df_5 rfl (lv_at hl 0 rfl) ?_
    refine va_get (D := gD g) (ci := 1) (v := .int (iI 0)) (C := RJ4) (T := TJ4) (N := 4) hx hb hts hinJ4 hown hK hP 0 rfl rfl 1 (by decide) (hts (.fieldLink RJ5 22 "java/lang/AbstractStringBuilder" "coder" "B") (List.mem_of_getElem? (i := 2) rfl)) (fun _ h9 => h9) rfl dJ5_ensureCapacityInternal_d00df_6 ?_
    refine x_ishr0 hx hb dJ5_ensureCapacityInternal_d00df_9 ?_
    obtain ⟨v_1, ev_1⟩ : ∃ z : Int, z = (cp : Int) := ⟨_, rfl⟩
    refine x_top ev_1.symm ?_
    refine lv_istore_n (lv' := [(2, .int (iI v_1)), (0, .ref aB), (1, .int (iI mn_))]) hx hb dJ5_ensureCapacityInternal_d00df_10 rfl hl (by decide) rfl (fun ls hl => ?_)
    refine lv_iload_n hx hb dJ5_ensureCapacityInternal_d00df_11 rfl (lv_at hl 2 rfl) ?_
    refine lv_iload_n hx hb dJ5_ensureCapacityInternal_d00df_12 rfl (lv_at hl 0 rfl) ?_
    refine x_isub hx hb dJ5_ensureCapacityInternal_d00df_13 ?_
    refine x_if_le (tgt := 38) hx hb (by omega) dJ5_ensureCapacityInternal_d00df_14 (by decide) (fun c_2 => ?_) (fun c_2 => ?_)
    · skip
      rw [hQ9]
      exact x_vret hx hb hr hlocks hP hD hS (S := Nat × Nat × (Int → Int)) (Φ := _) (W1 := _) dJ5_ensureCapacityInternal_d00df_38 ⟨aV, cp, bf⟩ (show ((16 ≤ cp ∧ cp ≤ 100) ∧ mn_ ≤ (cp : Int)) ∧ (∀ j : Int, 0 ≤ j → j < (cp : Int) → bf j = bf j) ∧ bnd bf 0 127 by
          first
          | (
             first | exact ⟨⟨hcp, by omega⟩, fun _ _ _ => rfl, hbf⟩ | exact ⟨⟨by omega, by omega⟩, fun j h1 h2 => ovr_at ⟨h1, h2⟩, bnd_ovr (fun _ => ⟨by omega, by omega⟩) (fun k => hbf k)⟩)
          | fail "q9") rfl (Nat.le_of_ble_eq_true rfl) (Nat.le_of_ble_eq_true rfl)
    · skip
      refine lv_aload_n hx hb dJ5_ensureCapacityInternal_d00df_17 rfl (lv_at hl 1 rfl) ?_
      refine lv_aload_n hx hb dJ5_ensureCapacityInternal_d00df_18 rfl (lv_at hl 1 rfl) ?_
      refine va_get (D := gD g) (ci := 1) (v := .ref aV) (C := RJ4) (T := TJ4) (N := 4) hx hb hts hinJ4 hown hK hP 0 rfl rfl 0 (by decide) (hts (.fieldLink RJ5 15 "java/lang/AbstractStringBuilder" "value" "[B") (List.mem_of_getElem? (i := 1) rfl)) (fun _ h9 => h9) rfl dJ5_ensureCapacityInternal_d00df_19 ?_
      refine lv_aload_n hx hb dJ5_ensureCapacityInternal_d00df_22 rfl (lv_at hl 1 rfl) ?_
      refine lv_iload_n hx hb dJ5_ensureCapacityInternal_d00df_23 rfl (lv_at hl 2 rfl) ?_
      refine x_calli (S := Unit) (wc := [(aB, .inr (1, [.ref aV, .int (iI 0), .int (iI ml), .int (iI ct)])), (aV, .inl (gB g, cp, .inl (ar bf)))]) (wr := []) hC hP hD hS hA [0, 1] [] [0, 1] rfl rfl (fun hpre => va_runU (As := [.int (iI mn_)]) (rest := [.ref aV, .ref aB]) ⟨hx, hb, hml, hown, hts⟩ (c_J5_newCapacity_0f7a4 l g H.size aB aV ml ct mn_ bf cp (by first | (first | assumption | omega | exact bnd_up (by assumption) (by omega) (by omega)) | fail "q8") (by first | (first | assumption | omega | exact bnd_up (by assumption) (by omega) (by omega)) | fail "q8")) (va_cwU 1 hts gJ5_ensureCapacityInternal_d00df_J5_newCapacity_0f7a4_u104J4 rfl rfl rfl rfl (by decide +kernel) ⟨Nat.le_of_ble_eq_true rfl, Nat.le_of_ble_eq_true rfl⟩) ⟨xB_blind, va_recv hK hP (ci := 1) (q0 := 0) rfl rfl, hpre _⟩ rfl rfl hl.1 rfl (lv_room (Nat.le_of_ble_eq_true rfl)) dJ5_ensureCapacityInternal_d00df_24 ⟨Nat.le_of_ble_eq_true rfl, Nat.le_of_ble_eq_true rfl⟩) (fun (u : Unit) => [(aB, .inr (1, [.ref aV, .int (iI 0), .int (iI ml), .int (iI ct)])), (aV, .inl (gB g, cp, .inl (ar bf)))]) rfl rfl (by decide) (fun _ => rfl) rfl (fun u v_3 H locs hv_3 pv_3 hP hD hS => ?_)
      have hP : va_P (gD g) vwCl [(aB, .inr (1, [.ref aV, .int (iI 0), .int (iI ml), .int (iI ct)])), (aV, .inl (gB g, cp, .inl (ar bf)))] H := hP
      have hD : va_D A [(aB, .inr (1, [.ref aV, .int (iI 0), .int (iI ml), .int (iI ct)])), (aV, .inl (gB g, cp, .inl (ar bf)))] := hD
      have hv_3 : v_3 = mx mn_ (2 * (cp : Int) + 2) := hv_3
      have pv_3 : (cp : Int) < v_3 ∧ v_3 ≤ 100 := by first | exact pv_3 | (rw [hv_3]; exact pv_3)
      have hnc := pv_3
      have hnr := mx_r mn_ (2 * (cp : Int) + 2) rfl
      have hnv := hv_3
      refine lv_aload_n hx hb dJ5_ensureCapacityInternal_d00df_27 rfl (lv_at hl 1 rfl) ?_
      refine va_get (D := gD g) (ci := 1) (v := .int (iI 0)) (C := RJ4) (T := TJ4) (N := 4) hx hb hts hinJ4 hown hK hP 0 rfl rfl 1 (by decide) (hts (.fieldLink RJ5 22 "java/lang/AbstractStringBuilder" "coder" "B") (List.mem_of_getElem? (i := 2) rfl)) (fun _ h9 => h9) rfl dJ5_ensureCapacityInternal_d00df_28 ?_
      refine x_ishl0 hx hb dJ5_ensureCapacityInternal_d00df_31 ?_
      refine x_callr (S := Nat) (wc := [(aV, .inl (gB g, cp, .inl (ar bf)))]) (wr := [(aB, .inr (1, [.ref aV, .int (iI 0), .int (iI ml), .int (iI ct)]))]) hC hP hD hS hA [1] [0] [0, 1, 2] rfl rfl (fun hpre => va_runS (As := [.ref aV, .int (iI v_3)]) (rest := [.ref aB]) ⟨hx, hb, hml, hown, hts⟩ (c_J7_copyOf_9075b l g H.size aV v_3 bf cp (by first | (first | assumption | omega | exact bnd_up (by assumption) (by omega) (by omega)) | fail "q8") (by first | (first | assumption | omega | exact bnd_up (by assumption) (by omega) (by omega)) | fail "q8") (by first | (first | assumption | omega | exact bnd_up (by assumption) (by omega) (by omega)) | fail "q8")) (va_cwS 2 hts gJ5_ensureCapacityInternal_d00df_J7_copyOf_9075b rfl rfl rfl (by decide +kernel) ⟨Nat.le_of_ble_eq_true rfl, Nat.le_of_ble_eq_true rfl⟩) ⟨xB_blind, hpre _⟩ rfl rfl hl.1 rfl (lv_room (Nat.le_of_ble_eq_true rfl)) dJ5_ensureCapacityInternal_d00df_32 ⟨Nat.le_of_ble_eq_true rfl, Nat.le_of_ble_eq_true rfl⟩) (fun (u : Nat) => [(aB, .inr (1, [.ref aV, .int (iI 0), .int (iI ml), .int (iI ct)])), (aV, .inl (gB g, cp, .inl (ar bf))), (u, .inl (gB g, v_3.toNat, .inl (ar (ovr (fun _ => 0) (cp : Int) bf))))]) rfl rfl (by decide) (fun _ => rfl) rfl (fun u H locs hv_5 hP hD hS => ?_)
      obtain ⟨aV_o_4, rfl⟩ : ∃ z, z = u := ⟨_, rfl⟩
      have hP : va_P (gD g) vwCl [(aB, .inr (1, [.ref aV, .int (iI 0), .int (iI ml), .int (iI ct)])), (aV, .inl (gB g, cp, .inl (ar bf))), (aV_o_4, .inl (gB g, v_3.toNat, .inl (ar (ovr (fun _ => 0) (cp : Int) bf))))] H := hP
      have hD : va_D A [(aB, .inr (1, [.ref aV, .int (iI 0), .int (iI ml), .int (iI ct)])), (aV, .inl (gB g, cp, .inl (ar bf))), (aV_o_4, .inl (gB g, v_3.toNat, .inl (ar (ovr (fun _ => 0) (cp : Int) bf))))] := hD
      refine W.eq (g2 := F0 m 35 ls [.ref aV_o_4, .ref aB]) rfl ?_
      refine va_put (D := gD g) (ci := 1) (v := .ref aV_o_4) (ty := tyJ4 0) (C := RJ4) (T := TJ4) (N := 4) hx hb hts hinJ4 tyJ4 tyJ4_ok nmJ4 hown hK hP hD hS 0 rfl rfl 0 (by decide) (hts (.fieldLink RJ5 15 "java/lang/AbstractStringBuilder" "value" "[B") (List.mem_of_getElem? (i := 1) rfl)) (fun _ h9 => h9) rfl (tyJ4_ok 0 (by decide)) rfl rfl (Nat.le_of_ble_eq_true rfl) dJ5_ensureCapacityInternal_d00df_35 (fun H locs hP hD hS => ?_)
      have hP : va_P (gD g) vwCl [(aB, .inr (1, [.ref aV_o_4, .int (iI 0), .int (iI ml), .int (iI ct)])), (aV, .inl (gB g, cp, .inl (ar bf))), (aV_o_4, .inl (gB g, v_3.toNat, .inl (ar (ovr (fun _ => 0) (cp : Int) bf))))] H := hP
      have hD : va_D A [(aB, .inr (1, [.ref aV_o_4, .int (iI 0), .int (iI ml), .int (iI ct)])), (aV, .inl (gB g, cp, .inl (ar bf))), (aV_o_4, .inl (gB g, v_3.toNat, .inl (ar (ovr (fun _ => 0) (cp : Int) bf))))] := hD
      have hP : va_P (gD g) vwCl [(aB, .inr (1, [.ref aV_o_4, .int (iI 0), .int (iI ml), .int (iI ct)])), (aV_o_4, .inl (gB g, v_3.toNat, .inl (ar (ovr (fun _ => 0) (cp : Int) bf))))] H := hP.sub [0, 2] rfl
      have hD : va_D A [(aB, .inr (1, [.ref aV_o_4, .int (iI 0), .int (iI ml), .int (iI ct)])), (aV_o_4, .inl (gB g, v_3.toNat, .inl (ar (ovr (fun _ => 0) (cp : Int) bf))))] := hD.sub [0, 2] (by decide) rfl
      have q_6 : (ovr (fun _ => 0) (cp : Int) bf) = (ovr (fun _ => 0) (cp : Int) bf) := by
        first
        | (
           first | rfl | omega | (subst_vars; first | rfl | omega))
        | fail "q9"
      have hw_7 := (congrArg (fun (z0 : Int → Int) => ([(aB, .inr (1, [.ref aV_o_4, .int (iI 0), .int (iI ml), .int (iI ct)])), (aV_o_4, .inl (gB g, v_3.toNat, .inl (ar z0)))] : va_W)) q_6.symm)
      rw [hQ9]
      exact x_vret hx hb hr hlocks hP hD hS (S := Nat × Nat × (Int → Int)) (Φ := _) (W1 := _) dJ5_ensureCapacityInternal_d00df_38 ⟨aV_o_4, v_3.toNat, (ovr (fun _ => 0) (cp : Int) bf)⟩ (show ((16 ≤ v_3.toNat ∧ v_3.toNat ≤ 100) ∧ mn_ ≤ (v_3.toNat : Int)) ∧ (∀ j : Int, 0 ≤ j → j < (cp : Int) → (ovr (fun _ => 0) (cp : Int) bf) j = bf j) ∧ bnd (ovr (fun _ => 0) (cp : Int) bf) 0 127 by
          first
          | (
             first | exact ⟨⟨hcp, by omega⟩, fun _ _ _ => rfl, hbf⟩ | exact ⟨⟨by omega, by omega⟩, fun j h1 h2 => ovr_at ⟨h1, h2⟩, bnd_ovr (fun _ => ⟨by omega, by omega⟩) (fun k => hbf k)⟩)
          | fail "q9") hw_7 (Nat.le_of_ble_eq_true rfl) (Nat.le_of_ble_eq_true rfl)
  rw [hH, hlo, hQ9] at goal_
  exact goal_

set_option maxHeartbeats 4000000 in
set_option maxRecDepth 100000 in
theorem c_J5_inflateIf0 (l : Launch) (g : xg) (sz : Nat) (aB aV : Nat) (ml ct : Int) : Met l yJ5_inflateIfNeededFor_a7421 wsJ5_inflateIfNeededFor_a7421 { frames := 1, cells := 0, slots := 0, locals := 20 } (va_Pc [.ref aB, .ref (gK g 0)] (xB g [(aB, .inr (1, [.ref aV, .int (iI 0), .int (iI ml), .int (iI ct)]))] sz)) (va_Qv (fun (u : Unit) => True) (fun u t => xE g (va_A [(aB, .inr (1, [.ref aV, .int (iI 0), .int (iI ml), .int (iI ct)]))] sz) ((fun (u : Unit) => [(aB, .inr (1, [.ref aV, .int (iI 0), .int (iI ml), .int (iI ct)]))]) u) t) (va_A [(aB, .inr (1, [.ref aV, .int (iI 0), .int (iI ml), .int (iI ct)]))] sz)) 0 0 (va_A [(aB, .inr (1, [.ref aV, .int (iI 0), .int (iI ml), .int (iI ct)]))] sz) := by
  refine x_enter (y := yJ5_inflateIfNeededFor_a7421) (ws := wsJ5_inflateIfNeededFor_a7421) (g := g) (sz := sz) (av := [.ref aB, .ref (gK g 0)]) (WS := [(aB, .inr (1, [.ref aV, .int (iI 0), .int (iI ml), .int (iI ct)]))]) (cc := cJ5_inflateIfNeededFor_a7421) (maxL := 2) (ret := none) (Qc := (fun A => (va_Qv (fun (u : Unit) => True) (fun u t => xE g A ((fun (u : Unit) => [(aB, .inr (1, [.ref aV, .int (iI 0), .int (iI ml), .int (iI ct)]))]) u) t) A))) (by decide) rfl (Nat.le_of_ble_eq_true rfl) ?_
  intro p e s m args below meth c A ls hx hb hr hml hown hts hlocks hname hC hP hD hS hA hl
  have hK := hC.1
  have hown : s.vm.findClass RJ5 = some m.cls := hown
  have hinJ4 : ∀ w ∈ u_ws RJ4 TJ4 4, w ∈ wsJ5_inflateIfNeededFor_a7421 := by decide +kernel
  have hl : lv_has ls 2 [(0, .ref aB), (1, .ref (gK g 0))] := hl
  obtain ⟨H, hH⟩ : ∃ z, z = s.heap := ⟨_, rfl⟩
  obtain ⟨locs, hlo⟩ : ∃ z : List Loc, z = [] := ⟨_, rfl⟩
  obtain ⟨Q9, hQ9⟩ : ∃ z, z = MQ below (va_Qv (fun (u : Unit) => True) (fun u t => xE g A ((fun (u : Unit) => [(aB, .inr (1, [.ref aV, .int (iI 0), .int (iI ml), .int (iI ct)]))]) u) t) A) args s 0 0 A := ⟨_, rfl⟩
  have hP : va_P (gD g) vwCl [(aB, .inr (1, [.ref aV, .int (iI 0), .int (iI ml), .int (iI ct)]))] H := by rw [hH]; exact hP
  have hS : va_S A s.heap H locs := by rw [hH, hlo]; exact hS
  have goal_ : W p l e { frames := 1, cells := 0, slots := 0, locals := 20 } s m args below meth c H locs 0 0 Q9 (F0 m 0 ls []) := by
    clear hH hlo
    refine va_gets hx hb hC.d.1 hS hown (hts (.fieldLink RJ5 18 "java/lang/String" "COMPACT_STRINGS" "Z") (List.mem_of_getElem? (i := 1) rfl)) (fun _ h9 => h9) dJ5_inflateIfNeededFor_a7421_0 ?_
    refine W.eq (g2 := F0 m 3 ls [.int (iI 1)]) rfl ?_
    refine x_if_eq (tgt := 21) hx hb (by omega) dJ5_inflateIfNeededFor_a7421_3 (by decide) (fun c_1 => ?_) (fun c_1 => ?_)
    · skip
      exact absurd c_1 (by decide)
    · skip
      refine lv_aload_n hx hb dJ5_inflateIfNeededFor_a7421_6 rfl (lv_at hl 0 rfl) ?_
      refine va_get (D := gD g) (ci := 1) (v := .int (iI 0)) (C := RJ4) (T := TJ4) (N := 4) hx hb hts hinJ4 hown hK hP 0 rfl rfl 1 (by decide) (hts (.fieldLink RJ5 22 "java/lang/AbstractStringBuilder" "coder" "B") (List.mem_of_getElem? (i := 2) rfl)) (fun _ h9 => h9) rfl dJ5_inflateIfNeededFor_a7421_7 ?_
      refine lv_aload_n hx hb dJ5_inflateIfNeededFor_a7421_10 rfl (lv_at hl 1 rfl) ?_
      refine x_calli (S := Unit) (wc := []) (wr := [(aB, .inr (1, [.ref aV, .int (iI 0), .int (iI ml), .int (iI ct)]))]) hC hP hD hS hA [] [0] [0] rfl rfl (fun hpre => va_runV (As := []) (rest := [.int (iI 0)]) ⟨hx, hb, hml, hown, hts⟩ (c_J0_coder0 l g H.size ) (cwV 0 hts gJ5_inflateIfNeededFor_a7421_J0_coder_7d493 rfl rfl rfl (by decide +kernel) ⟨Nat.le_of_ble_eq_true rfl, Nat.le_of_ble_eq_true rfl⟩) ⟨xB_blind, vk_recv hC.d.2.2.1 (i := 0) (by decide) hS, hpre _⟩ rfl rfl hl.1 rfl (lv_room (Nat.le_of_ble_eq_true rfl)) dJ5_inflateIfNeededFor_a7421_11 ⟨Nat.le_of_ble_eq_true rfl, Nat.le_of_ble_eq_true rfl⟩) (fun (u : Unit) => [(aB, .inr (1, [.ref aV, .int (iI 0), .int (iI ml), .int (iI ct)]))]) rfl rfl (by decide) (fun _ => rfl) rfl (fun u v_2 H locs hv_2 pv_2 hP hD hS => ?_)
      have hP : va_P (gD g) vwCl [(aB, .inr (1, [.ref aV, .int (iI 0), .int (iI ml), .int (iI ct)]))] H := hP
      have hD : va_D A [(aB, .inr (1, [.ref aV, .int (iI 0), .int (iI ml), .int (iI ct)]))] := hD
      have hv_2 : v_2 = 0 := hv_2
      subst hv_2
      refine x_cmp_eq (tgt := 21) hx hb (by omega) (by omega) dJ5_inflateIfNeededFor_a7421_14 (by decide) (fun c_3 => ?_) (fun c_3 => ?_)
      · skip
        rw [hQ9]
        exact x_vret hx hb hr hlocks hP hD hS (S := Unit) (Φ := _) (W1 := _) dJ5_inflateIfNeededFor_a7421_21 () trivial rfl (Nat.le_of_ble_eq_true rfl) (Nat.le_of_ble_eq_true rfl)
      · skip
        exact absurd c_3 (by decide)
  rw [hH, hlo, hQ9] at goal_
  exact goal_

set_option maxHeartbeats 4000000 in
set_option maxRecDepth 100000 in
theorem c_J0_getBytes0 (l : Launch) (g : xg) (sz : Nat) (aV : Nat) (ix : Int) (bf : Int → Int) (cp : Nat) (hcp : 16 ≤ cp ∧ cp ≤ 100) (hix : 0 ≤ ix ∧ ix + 0 ≤ (cp : Int)) : Met l yJ0_getBytes_840e7 wsJ0_getBytes_840e7 { frames := 1, cells := 0, slots := 0, locals := 60 } (va_Pc [.ref (gK g 0), .ref aV, .int (iI ix), .int (iI 0)] (xB g [(aV, .inl (gB g, cp, .inl (ar bf)))] sz)) (va_Qv (fun (u : Unit) => True) (fun u t => xE g (va_A [(aV, .inl (gB g, cp, .inl (ar bf)))] sz) ((fun (u : Unit) => [(aV, .inl (gB g, cp, .inl (ar bf)))]) u) t) (va_A [(aV, .inl (gB g, cp, .inl (ar bf)))] sz)) 0 0 (va_A [(aV, .inl (gB g, cp, .inl (ar bf)))] sz) := by
  refine x_enter (y := yJ0_getBytes_840e7) (ws := wsJ0_getBytes_840e7) (g := g) (sz := sz) (av := [.ref (gK g 0), .ref aV, .int (iI ix), .int (iI 0)]) (WS := [(aV, .inl (gB g, cp, .inl (ar bf)))]) (cc := cJ0_getBytes_840e7) (maxL := 4) (ret := none) (Qc := (fun A => (va_Qv (fun (u : Unit) => True) (fun u t => xE g A ((fun (u : Unit) => [(aV, .inl (gB g, cp, .inl (ar bf)))]) u) t) A))) (by decide) rfl (Nat.le_of_ble_eq_true rfl) ?_
  intro p e s m args below meth c A ls hx hb hr hml hown hts hlocks hname hC hP hD hS hA hl
  have hK := hC.1
  have hown : s.vm.findClass RJ0 = some m.cls := hown
  have hl : lv_has ls 4 [(0, .ref (gK g 0)), (1, .ref aV), (2, .int (iI ix)), (3, .int (iI 0))] := hl
  obtain ⟨H, hH⟩ : ∃ z, z = s.heap := ⟨_, rfl⟩
  obtain ⟨locs, hlo⟩ : ∃ z : List Loc, z = [] := ⟨_, rfl⟩
  obtain ⟨Q9, hQ9⟩ : ∃ z, z = MQ below (va_Qv (fun (u : Unit) => True) (fun u t => xE g A ((fun (u : Unit) => [(aV, .inl (gB g, cp, .inl (ar bf)))]) u) t) A) args s 0 0 A := ⟨_, rfl⟩
  have hP : va_P (gD g) vwCl [(aV, .inl (gB g, cp, .inl (ar bf)))] H := by rw [hH]; exact hP
  have hS : va_S A s.heap H locs := by rw [hH, hlo]; exact hS
  have goal_ : W p l e { frames := 1, cells := 0, slots := 0, locals := 60 } s m args below meth c H locs 0 0 Q9 (F0 m 0 ls []) := by
    clear hH hlo
    refine lv_aload_n hx hb dJ0_getBytes_840e7_0 rfl (lv_at hl 0 rfl) ?_
    refine x_calli (S := Unit) (wc := []) (wr := [(aV, .inl (gB g, cp, .inl (ar bf)))]) hC hP hD hS hA [] [0] [0] rfl rfl (fun hpre => va_runV (As := []) (rest := []) ⟨hx, hb, hml, hown, hts⟩ (c_J0_coder0 l g H.size ) (cwV 0 hts gJ0_getBytes_840e7_J0_coder_7d493 rfl rfl rfl (by decide +kernel) ⟨Nat.le_of_ble_eq_true rfl, Nat.le_of_ble_eq_true rfl⟩) ⟨xB_blind, vk_recv hC.d.2.2.1 (i := 0) (by decide) hS, hpre _⟩ rfl rfl hl.1 rfl (lv_room (Nat.le_of_ble_eq_true rfl)) dJ0_getBytes_840e7_1 ⟨Nat.le_of_ble_eq_true rfl, Nat.le_of_ble_eq_true rfl⟩) (fun (u : Unit) => [(aV, .inl (gB g, cp, .inl (ar bf)))]) rfl rfl (by decide) (fun _ => rfl) rfl (fun u v_1 H locs hv_1 pv_1 hP hD hS => ?_)
    have hP : va_P (gD g) vwCl [(aV, .inl (gB g, cp, .inl (ar bf)))] H := hP
    have hD : va_D A [(aV, .inl (gB g, cp, .inl (ar bf)))] := hD
    have hv_1 : v_1 = 0 := hv_1
    subst hv_1
    refine lv_iload_n hx hb dJ0_getBytes_840e7_4 rfl (lv_at hl 3 rfl) ?_
    refine x_cmp_ne (tgt := 28) hx hb (by omega) (by omega) dJ0_getBytes_840e7_5 (by decide) (fun c_2 => ?_) (fun c_2 => ?_)
    · skip
      exact absurd c_2 (by decide)
    · skip
      refine lv_aload_n hx hb dJ0_getBytes_840e7_8 rfl (lv_at hl 0 rfl) ?_
      refine vk_getf hx hb (hC.d.2.2.1.1 0 (by decide)).2.2.1 hS hown (hts (.fieldLink RJ0 9 "java/lang/String" "value" "[B") (List.mem_of_getElem? (i := 1) rfl)) (fun _ h9 => h9) dJ0_getBytes_840e7_9 ?_
      refine W.eq (g2 := F0 m 12 ls [.ref (gV g 0)]) rfl ?_
      refine x_iconst hx hb dJ0_getBytes_840e7_12 ?_
      refine lv_aload_n hx hb dJ0_getBytes_840e7_13 rfl (lv_at hl 1 rfl) ?_
      refine lv_iload_n hx hb dJ0_getBytes_840e7_14 rfl (lv_at hl 2 rfl) ?_
      refine lv_iload_n hx hb dJ0_getBytes_840e7_15 rfl (lv_at hl 3 rfl) ?_
      refine x_ishl0 hx hb dJ0_getBytes_840e7_16 ?_
      refine lv_aload_n hx hb dJ0_getBytes_840e7_17 rfl (lv_at hl 0 rfl) ?_
      refine vk_getf hx hb (hC.d.2.2.1.1 0 (by decide)).2.2.1 hS hown (hts (.fieldLink RJ0 9 "java/lang/String" "value" "[B") (List.mem_of_getElem? (i := 1) rfl)) (fun _ h9 => h9) dJ0_getBytes_840e7_18 ?_
      refine W.eq (g2 := F0 m 21 ls [.ref (gV g 0), .int (iI ix), .ref aV, .int (iI 0), .ref (gV g 0)]) rfl ?_
      refine va_tlen hx hb (hC.d.2.2.1.1 0 (by decide)).2.2.2 hS (v := iI 0) (by decide) dJ0_getBytes_840e7_21 ?_
      refine x_copyS0 hx hb (hml.trans hl.1.symm) hown (hts (.methodLink RJ0 212 arraycopyName) (List.mem_of_getElem? (i := 2) rfl)) (hts (.native arraycopyName) (List.mem_of_getElem? (i := 3) rfl)) (hts (.static arraycopyName) (List.mem_of_getElem? (i := 4) rfl)) (hts (.initialized "java/lang/System") (List.mem_of_getElem? (i := 5) rfl)) hC hP hD hS 0 rfl (by omega) (by omega) (Nat.le_of_ble_eq_true rfl) (by decide) dJ0_getBytes_840e7_22 (fun H locs hP hD hS => ?_)
      have hP : va_P (gD g) vwCl [(aV, .inl (gB g, cp, .inl (ar bf)))] H := hP
      have hD : va_D A [(aV, .inl (gB g, cp, .inl (ar bf)))] := hD
      refine lv_goto (tgt := 43) hx hb dJ0_getBytes_840e7_25 (by decide) ?_
      rw [hQ9]
      exact x_vret hx hb hr hlocks hP hD hS (S := Unit) (Φ := _) (W1 := _) dJ0_getBytes_840e7_43 () trivial rfl (Nat.le_of_ble_eq_true rfl) (Nat.le_of_ble_eq_true rfl)
  rw [hH, hlo, hQ9] at goal_
  exact goal_

set_option maxHeartbeats 4000000 in
set_option maxRecDepth 100000 in
theorem c_J5_putStringAt0 (l : Launch) (g : xg) (sz : Nat) (aB aV : Nat) (ml ct ix : Int) (bf : Int → Int) (cp : Nat) (hcp : 16 ≤ cp ∧ cp ≤ 100) (hix : 0 ≤ ix ∧ ix + 0 ≤ (cp : Int)) : Met l yJ5_putStringAt_47b60 wsJ5_putStringAt_47b60 { frames := 2, cells := 0, slots := 0, locals := 83 } (va_Pc [.ref aB, .int (iI ix), .ref (gK g 0)] (xB g [(aB, .inr (1, [.ref aV, .int (iI 0), .int (iI ml), .int (iI ct)])), (aV, .inl (gB g, cp, .inl (ar bf)))] sz)) (va_Qv (fun (u : Unit) => True) (fun u t => xE g (va_A [(aB, .inr (1, [.ref aV, .int (iI 0), .int (iI ml), .int (iI ct)])), (aV, .inl (gB g, cp, .inl (ar bf)))] sz) ((fun (u : Unit) => [(aB, .inr (1, [.ref aV, .int (iI 0), .int (iI ml), .int (iI ct)])), (aV, .inl (gB g, cp, .inl (ar bf)))]) u) t) (va_A [(aB, .inr (1, [.ref aV, .int (iI 0), .int (iI ml), .int (iI ct)])), (aV, .inl (gB g, cp, .inl (ar bf)))] sz)) 0 0 (va_A [(aB, .inr (1, [.ref aV, .int (iI 0), .int (iI ml), .int (iI ct)])), (aV, .inl (gB g, cp, .inl (ar bf)))] sz) := by
  refine x_enter (y := yJ5_putStringAt_47b60) (ws := wsJ5_putStringAt_47b60) (g := g) (sz := sz) (av := [.ref aB, .int (iI ix), .ref (gK g 0)]) (WS := [(aB, .inr (1, [.ref aV, .int (iI 0), .int (iI ml), .int (iI ct)])), (aV, .inl (gB g, cp, .inl (ar bf)))]) (cc := cJ5_putStringAt_47b60) (maxL := 3) (ret := none) (Qc := (fun A => (va_Qv (fun (u : Unit) => True) (fun u t => xE g A ((fun (u : Unit) => [(aB, .inr (1, [.ref aV, .int (iI 0), .int (iI ml), .int (iI ct)])), (aV, .inl (gB g, cp, .inl (ar bf)))]) u) t) A))) (by decide) rfl (Nat.le_of_ble_eq_true rfl) ?_
  intro p e s m args below meth c A ls hx hb hr hml hown hts hlocks hname hC hP hD hS hA hl
  have hK := hC.1
  have hown : s.vm.findClass RJ5 = some m.cls := hown
  have hinJ4 : ∀ w ∈ u_ws RJ4 TJ4 4, w ∈ wsJ5_putStringAt_47b60 := by decide +kernel
  have hl : lv_has ls 3 [(0, .ref aB), (1, .int (iI ix)), (2, .ref (gK g 0))] := hl
  obtain ⟨H, hH⟩ : ∃ z, z = s.heap := ⟨_, rfl⟩
  obtain ⟨locs, hlo⟩ : ∃ z : List Loc, z = [] := ⟨_, rfl⟩
  obtain ⟨Q9, hQ9⟩ : ∃ z, z = MQ below (va_Qv (fun (u : Unit) => True) (fun u t => xE g A ((fun (u : Unit) => [(aB, .inr (1, [.ref aV, .int (iI 0), .int (iI ml), .int (iI ct)])), (aV, .inl (gB g, cp, .inl (ar bf)))]) u) t) A) args s 0 0 A := ⟨_, rfl⟩
  have hP : va_P (gD g) vwCl [(aB, .inr (1, [.ref aV, .int (iI 0), .int (iI ml), .int (iI ct)])), (aV, .inl (gB g, cp, .inl (ar bf)))] H := by rw [hH]; exact hP
  have hS : va_S A s.heap H locs := by rw [hH, hlo]; exact hS
  have goal_ : W p l e { frames := 2, cells := 0, slots := 0, locals := 83 } s m args below meth c H locs 0 0 Q9 (F0 m 0 ls []) := by
    clear hH hlo
    refine lv_aload_n hx hb dJ5_putStringAt_47b60_0 rfl (lv_at hl 0 rfl) ?_
    refine lv_aload_n hx hb dJ5_putStringAt_47b60_1 rfl (lv_at hl 2 rfl) ?_
    refine x_callv (S := Unit) (wc := [(aB, .inr (1, [.ref aV, .int (iI 0), .int (iI ml), .int (iI ct)]))]) (wr := [(aV, .inl (gB g, cp, .inl (ar bf)))]) hC hP hD hS hA [0] [1] [1, 0] rfl rfl (fun hpre => va_runU (As := [.ref (gK g 0)]) (rest := []) ⟨hx, hb, hml, hown, hts⟩ (c_J5_inflateIf0 l g H.size aB aV ml ct) (va_cwU 1 hts gJ5_putStringAt_47b60_J5_inflateIfNeededFor_a7421_u397J4 rfl rfl rfl rfl (by decide +kernel) ⟨Nat.le_of_ble_eq_true rfl, Nat.le_of_ble_eq_true rfl⟩) ⟨xB_blind, va_recv hK hP (ci := 1) (q0 := 0) rfl rfl, hpre _⟩ rfl rfl hl.1 rfl (lv_room (Nat.le_of_ble_eq_true rfl)) dJ5_putStringAt_47b60_2 ⟨Nat.le_of_ble_eq_true rfl, Nat.le_of_ble_eq_true rfl⟩) (fun (u : Unit) => [(aB, .inr (1, [.ref aV, .int (iI 0), .int (iI ml), .int (iI ct)])), (aV, .inl (gB g, cp, .inl (ar bf)))]) rfl rfl (by decide) (fun _ => rfl) rfl (fun u H locs hv_1 hP hD hS => ?_)
    have hP : va_P (gD g) vwCl [(aB, .inr (1, [.ref aV, .int (iI 0), .int (iI ml), .int (iI ct)])), (aV, .inl (gB g, cp, .inl (ar bf)))] H := hP
    have hD : va_D A [(aB, .inr (1, [.ref aV, .int (iI 0), .int (iI ml), .int (iI ct)])), (aV, .inl (gB g, cp, .inl (ar bf)))] := hD
    refine lv_aload_n hx hb dJ5_putStringAt_47b60_5 rfl (lv_at hl 2 rfl) ?_
    refine lv_aload_n hx hb dJ5_putStringAt_47b60_6 rfl (lv_at hl 0 rfl) ?_
    refine va_get (D := gD g) (ci := 1) (v := .ref aV) (C := RJ4) (T := TJ4) (N := 4) hx hb hts hinJ4 hown hK hP 0 rfl rfl 0 (by decide) (hts (.fieldLink RJ5 15 "java/lang/AbstractStringBuilder" "value" "[B") (List.mem_of_getElem? (i := 1) rfl)) (fun _ h9 => h9) rfl dJ5_putStringAt_47b60_7 ?_
    refine lv_iload_n hx hb dJ5_putStringAt_47b60_10 rfl (lv_at hl 1 rfl) ?_
    refine lv_aload_n hx hb dJ5_putStringAt_47b60_11 rfl (lv_at hl 0 rfl) ?_
    refine va_get (D := gD g) (ci := 1) (v := .int (iI 0)) (C := RJ4) (T := TJ4) (N := 4) hx hb hts hinJ4 hown hK hP 0 rfl rfl 1 (by decide) (hts (.fieldLink RJ5 22 "java/lang/AbstractStringBuilder" "coder" "B") (List.mem_of_getElem? (i := 2) rfl)) (fun _ h9 => h9) rfl dJ5_putStringAt_47b60_12 ?_
    refine x_callv (S := Unit) (wc := [(aV, .inl (gB g, cp, .inl (ar bf)))]) (wr := [(aB, .inr (1, [.ref aV, .int (iI 0), .int (iI ml), .int (iI ct)]))]) hC hP hD hS hA [1] [0] [0, 1] rfl rfl (fun hpre => va_runV (As := [.ref aV, .int (iI ix), .int (iI 0)]) (rest := []) ⟨hx, hb, hml, hown, hts⟩ (c_J0_getBytes0 l g H.size aV ix bf cp (by first | (first | assumption | omega | exact bnd_up (by assumption) (by omega) (by omega)) | fail "q8") (by first | (first | assumption | omega | exact bnd_up (by assumption) (by omega) (by omega)) | fail "q8")) (cwV 3 hts gJ5_putStringAt_47b60_J0_getBytes_840e7 rfl rfl rfl (by decide +kernel) ⟨Nat.le_of_ble_eq_true rfl, Nat.le_of_ble_eq_true rfl⟩) ⟨xB_blind, vk_recv hC.d.2.2.1 (i := 0) (by decide) hS, hpre _⟩ rfl rfl hl.1 rfl (lv_room (Nat.le_of_ble_eq_true rfl)) dJ5_putStringAt_47b60_15 ⟨Nat.le_of_ble_eq_true rfl, Nat.le_of_ble_eq_true rfl⟩) (fun (u : Unit) => [(aB, .inr (1, [.ref aV, .int (iI 0), .int (iI ml), .int (iI ct)])), (aV, .inl (gB g, cp, .inl (ar bf)))]) rfl rfl (by decide) (fun _ => rfl) rfl (fun u H locs hv_2 hP hD hS => ?_)
    have hP : va_P (gD g) vwCl [(aB, .inr (1, [.ref aV, .int (iI 0), .int (iI ml), .int (iI ct)])), (aV, .inl (gB g, cp, .inl (ar bf)))] H := hP
    have hD : va_D A [(aB, .inr (1, [.ref aV, .int (iI 0), .int (iI ml), .int (iI ct)])), (aV, .inl (gB g, cp, .inl (ar bf)))] := hD
    rw [hQ9]
    exact x_vret hx hb hr hlocks hP hD hS (S := Unit) (Φ := _) (W1 := _) dJ5_putStringAt_47b60_18 () trivial rfl (Nat.le_of_ble_eq_true rfl) (Nat.le_of_ble_eq_true rfl)
  rw [hH, hlo, hQ9] at goal_
  exact goal_

set_option maxHeartbeats 4000000 in
set_option maxRecDepth 100000 in
theorem c_J5_appendS0 (l : Launch) (g : xg) (sz : Nat) (aB aV : Nat) (ml ct : Int) (bf : Int → Int) (cp : Nat) (hcp : 16 ≤ cp ∧ cp ≤ 100) (hct : 0 ≤ ct ∧ ct ≤ 45) (hcc : ct ≤ (cp : Int)) (hbf : bnd bf 0 127) : Met l yJ5_append_cf1ce wsJ5_append_cf1ce { frames := 4, cells := 1, slots := 100, locals := 105 } (va_Pc [.ref aB, .ref (gK g 0)] (xB g [(aB, .inr (1, [.ref aV, .int (iI 0), .int (iI ml), .int (iI ct)])), (aV, .inl (gB g, cp, .inl (ar bf)))] sz)) (va_Qr (fun (u : Nat × Nat × (Int → Int)) => ((16 ≤ u.2.1 ∧ u.2.1 ≤ 100) ∧ ct + 0 ≤ (u.2.1 : Int)) ∧ (∀ j : Int, 0 ≤ j → j < ct + 0 → u.2.2 j = bf j) ∧ bnd u.2.2 0 127) (fun u a t => a = (fun (u : Nat × Nat × (Int → Int)) => aB) u ∧ xE g (va_A [(aB, .inr (1, [.ref aV, .int (iI 0), .int (iI ml), .int (iI ct)])), (aV, .inl (gB g, cp, .inl (ar bf)))] sz) ((fun (u : Nat × Nat × (Int → Int)) => [(aB, .inr (1, [.ref u.1, .int (iI 0), .int (iI ml), .int (iI (ct + 0))])), (u.1, .inl (gB g, u.2.1, .inl (ar u.2.2)))]) u) t) (va_A [(aB, .inr (1, [.ref aV, .int (iI 0), .int (iI ml), .int (iI ct)])), (aV, .inl (gB g, cp, .inl (ar bf)))] sz)) 1 100 (va_A [(aB, .inr (1, [.ref aV, .int (iI 0), .int (iI ml), .int (iI ct)])), (aV, .inl (gB g, cp, .inl (ar bf)))] sz) := by
  refine x_enter (y := yJ5_append_cf1ce) (ws := wsJ5_append_cf1ce) (g := g) (sz := sz) (av := [.ref aB, .ref (gK g 0)]) (WS := [(aB, .inr (1, [.ref aV, .int (iI 0), .int (iI ml), .int (iI ct)])), (aV, .inl (gB g, cp, .inl (ar bf)))]) (cc := cJ5_append_cf1ce) (maxL := 3) (ret := some (.object "java/lang/AbstractStringBuilder")) (Qc := (fun A => (va_Qr (fun (u : Nat × Nat × (Int → Int)) => ((16 ≤ u.2.1 ∧ u.2.1 ≤ 100) ∧ ct + 0 ≤ (u.2.1 : Int)) ∧ (∀ j : Int, 0 ≤ j → j < ct + 0 → u.2.2 j = bf j) ∧ bnd u.2.2 0 127) (fun u a t => a = (fun (u : Nat × Nat × (Int → Int)) => aB) u ∧ xE g A ((fun (u : Nat × Nat × (Int → Int)) => [(aB, .inr (1, [.ref u.1, .int (iI 0), .int (iI ml), .int (iI (ct + 0))])), (u.1, .inl (gB g, u.2.1, .inl (ar u.2.2)))]) u) t) A))) (by decide) rfl (Nat.le_of_ble_eq_true rfl) ?_
  intro p e s m args below meth c A ls hx hb hr hml hown hts hlocks hname hC hP hD hS hA hl
  have hK := hC.1
  have hown : s.vm.findClass RJ5 = some m.cls := hown
  have hinJ4 : ∀ w ∈ u_ws RJ4 TJ4 4, w ∈ wsJ5_append_cf1ce := by decide +kernel
  have hl : lv_has ls 3 [(0, .ref aB), (1, .ref (gK g 0))] := hl
  obtain ⟨H, hH⟩ : ∃ z, z = s.heap := ⟨_, rfl⟩
  obtain ⟨locs, hlo⟩ : ∃ z : List Loc, z = [] := ⟨_, rfl⟩
  obtain ⟨Q9, hQ9⟩ : ∃ z, z = MQ below (va_Qr (fun (u : Nat × Nat × (Int → Int)) => ((16 ≤ u.2.1 ∧ u.2.1 ≤ 100) ∧ ct + 0 ≤ (u.2.1 : Int)) ∧ (∀ j : Int, 0 ≤ j → j < ct + 0 → u.2.2 j = bf j) ∧ bnd u.2.2 0 127) (fun u a t => a = (fun (u : Nat × Nat × (Int → Int)) => aB) u ∧ xE g A ((fun (u : Nat × Nat × (Int → Int)) => [(aB, .inr (1, [.ref u.1, .int (iI 0), .int (iI ml), .int (iI (ct + 0))])), (u.1, .inl (gB g, u.2.1, .inl (ar u.2.2)))]) u) t) A) args s 1 100 A := ⟨_, rfl⟩
  have hP : va_P (gD g) vwCl [(aB, .inr (1, [.ref aV, .int (iI 0), .int (iI ml), .int (iI ct)])), (aV, .inl (gB g, cp, .inl (ar bf)))] H := by rw [hH]; exact hP
  have hS : va_S A s.heap H locs := by rw [hH, hlo]; exact hS
  have goal_ : W p l e { frames := 4, cells := 1, slots := 100, locals := 105 } s m args below meth c H locs 0 0 Q9 (F0 m 0 ls []) := by
    clear hH hlo
    refine lv_aload_n hx hb dJ5_append_cf1ce_0 rfl (lv_at hl 1 rfl) ?_
    refine lv_ifnonnull (tgt := 9) hx hb dJ5_append_cf1ce_1 (by decide) ?_
    refine lv_aload_n hx hb dJ5_append_cf1ce_9 rfl (lv_at hl 1 rfl) ?_
    refine x_calli (S := Unit) (wc := []) (wr := [(aB, .inr (1, [.ref aV, .int (iI 0), .int (iI ml), .int (iI ct)])), (aV, .inl (gB g, cp, .inl (ar bf)))]) hC hP hD hS hA [] [0, 1] [0, 1] rfl rfl (fun hpre => va_runV (As := []) (rest := []) ⟨hx, hb, hml, hown, hts⟩ (c_J0_length0 l g H.size ) (cwV 0 hts gJ5_append_cf1ce_J0_length_8abf5 rfl rfl rfl (by decide +kernel) ⟨Nat.le_of_ble_eq_true rfl, Nat.le_of_ble_eq_true rfl⟩) ⟨xB_blind, vk_recv hC.d.2.2.1 (i := 0) (by decide) hS, hpre _⟩ rfl rfl hl.1 rfl (lv_room (Nat.le_of_ble_eq_true rfl)) dJ5_append_cf1ce_10 ⟨Nat.le_of_ble_eq_true rfl, Nat.le_of_ble_eq_true rfl⟩) (fun (u : Unit) => [(aB, .inr (1, [.ref aV, .int (iI 0), .int (iI ml), .int (iI ct)])), (aV, .inl (gB g, cp, .inl (ar bf)))]) rfl rfl (by decide) (fun _ => rfl) rfl (fun u v_1 H locs hv_1 pv_1 hP hD hS => ?_)
    have hP : va_P (gD g) vwCl [(aB, .inr (1, [.ref aV, .int (iI 0), .int (iI ml), .int (iI ct)])), (aV, .inl (gB g, cp, .inl (ar bf)))] H := hP
    have hD : va_D A [(aB, .inr (1, [.ref aV, .int (iI 0), .int (iI ml), .int (iI ct)])), (aV, .inl (gB g, cp, .inl (ar bf)))] := hD
    have hv_1 : v_1 = 0 := hv_1
    subst hv_1
    refine lv_istore_n (lv' := [(2, .int (iI 0)), (0, .ref aB), (1, .ref (gK g 0))]) hx hb dJ5_append_cf1ce_13 rfl hl (by decide) rfl (fun ls hl => ?_)
    refine lv_aload_n hx hb dJ5_append_cf1ce_14 rfl (lv_at hl 1 rfl) ?_
    refine lv_aload_n hx hb dJ5_append_cf1ce_15 rfl (lv_at hl 1 rfl) ?_
    refine va_get (D := gD g) (ci := 1) (v := .int (iI ct)) (C := RJ4) (T := TJ4) (N := 4) hx hb hts hinJ4 hown hK hP 0 rfl rfl 3 (by decide) (hts (.fieldLink RJ5 79 "java/lang/AbstractStringBuilder" "count" "I") (List.mem_of_getElem? (i := 1) rfl)) (fun _ h9 => h9) rfl dJ5_append_cf1ce_16 ?_
    refine lv_iload_n hx hb dJ5_append_cf1ce_19 rfl (lv_at hl 0 rfl) ?_
    refine x_iadd hx hb dJ5_append_cf1ce_20 ?_
    refine x_callv (S := Nat × Nat × (Int → Int)) (wc := [(aB, .inr (1, [.ref aV, .int (iI 0), .int (iI ml), .int (iI ct)])), (aV, .inl (gB g, cp, .inl (ar bf)))]) (wr := []) hC hP hD hS hA [0, 1] [] [0, 1] rfl rfl (fun hpre => va_runU (As := [.int (iI (ct + 0))]) (rest := []) ⟨hx, hb, hml, hown, hts⟩ (c_J5_ensureCapacityInternal_d00df l g H.size aB aV ml ct (ct + 0) bf cp (by first | (first | assumption | omega | exact bnd_up (by assumption) (by omega) (by omega)) | fail "q8") (by first | (first | assumption | omega | exact bnd_up (by assumption) (by omega) (by omega)) | fail "q8") (by first | (first | assumption | omega | exact bnd_up (by assumption) (by omega) (by omega)) | fail "q8")) (va_cwU 1 hts gJ5_append_cf1ce_J5_ensureCapacityInternal_d00df_u100J4 rfl rfl rfl rfl (by decide +kernel) ⟨Nat.le_of_ble_eq_true rfl, Nat.le_of_ble_eq_true rfl⟩) ⟨xB_blind, va_recv hK hP (ci := 1) (q0 := 0) rfl rfl, hpre _⟩ rfl rfl hl.1 rfl (lv_room (Nat.le_of_ble_eq_true rfl)) dJ5_append_cf1ce_21 ⟨Nat.le_of_ble_eq_true rfl, Nat.le_of_ble_eq_true rfl⟩) (fun (u : Nat × Nat × (Int → Int)) => [(aB, .inr (1, [.ref u.1, .int (iI 0), .int (iI ml), .int (iI ct)])), (u.1, .inl (gB g, u.2.1, .inl (ar u.2.2)))]) rfl rfl (by decide) (fun _ => rfl) rfl (fun u H locs hv_5 hP hD hS => ?_)
    obtain ⟨aV_o_2, cp_o_3, bf_o_4⟩ := u
    have hP : va_P (gD g) vwCl [(aB, .inr (1, [.ref aV_o_2, .int (iI 0), .int (iI ml), .int (iI ct)])), (aV_o_2, .inl (gB g, cp_o_3, .inl (ar bf_o_4)))] H := hP
    have hD : va_D A [(aB, .inr (1, [.ref aV_o_2, .int (iI 0), .int (iI ml), .int (iI ct)])), (aV_o_2, .inl (gB g, cp_o_3, .inl (ar bf_o_4)))] := hD
    have pv_5 : ((16 ≤ cp_o_3 ∧ cp_o_3 ≤ 100) ∧ (ct + 0) ≤ (cp_o_3 : Int)) ∧ (∀ j : Int, 0 ≤ j → j < (cp : Int) → bf_o_4 j = bf j) ∧ bnd bf_o_4 0 127 := hv_5
    have hE := pv_5
    refine lv_aload_n hx hb dJ5_append_cf1ce_24 rfl (lv_at hl 1 rfl) ?_
    refine lv_aload_n hx hb dJ5_append_cf1ce_25 rfl (lv_at hl 1 rfl) ?_
    refine va_get (D := gD g) (ci := 1) (v := .int (iI ct)) (C := RJ4) (T := TJ4) (N := 4) hx hb hts hinJ4 hown hK hP 0 rfl rfl 3 (by decide) (hts (.fieldLink RJ5 79 "java/lang/AbstractStringBuilder" "count" "I") (List.mem_of_getElem? (i := 1) rfl)) (fun _ h9 => h9) rfl dJ5_append_cf1ce_26 ?_
    refine lv_aload_n hx hb dJ5_append_cf1ce_29 rfl (lv_at hl 2 rfl) ?_
    refine x_callv (S := Unit) (wc := [(aB, .inr (1, [.ref aV_o_2, .int (iI 0), .int (iI ml), .int (iI ct)])), (aV_o_2, .inl (gB g, cp_o_3, .inl (ar bf_o_4)))]) (wr := []) hC hP hD hS hA [0, 1] [] [0, 1] rfl rfl (fun hpre => va_runU (As := [.int (iI ct), .ref (gK g 0)]) (rest := []) ⟨hx, hb, hml, hown, hts⟩ (c_J5_putStringAt0 l g H.size aB aV_o_2 ml ct ct bf_o_4 cp_o_3 (by first | (first | assumption | omega | exact bnd_up (by assumption) (by omega) (by omega)) | fail "q8") (by first | (first | assumption | omega | exact bnd_up (by assumption) (by omega) (by omega)) | fail "q8")) (va_cwU 2 hts gJ5_append_cf1ce_J5_putStringAt_47b60_u208J4 rfl rfl rfl rfl (by decide +kernel) ⟨Nat.le_of_ble_eq_true rfl, Nat.le_of_ble_eq_true rfl⟩) ⟨xB_blind, va_recv hK hP (ci := 1) (q0 := 0) rfl rfl, hpre _⟩ rfl rfl hl.1 rfl (lv_room (Nat.le_of_ble_eq_true rfl)) dJ5_append_cf1ce_30 ⟨Nat.le_of_ble_eq_true rfl, Nat.le_of_ble_eq_true rfl⟩) (fun (u : Unit) => [(aB, .inr (1, [.ref aV_o_2, .int (iI 0), .int (iI ml), .int (iI ct)])), (aV_o_2, .inl (gB g, cp_o_3, .inl (ar bf_o_4)))]) rfl rfl (by decide) (fun _ => rfl) rfl (fun u H locs hv_6 hP hD hS => ?_)
    have hP : va_P (gD g) vwCl [(aB, .inr (1, [.ref aV_o_2, .int (iI 0), .int (iI ml), .int (iI ct)])), (aV_o_2, .inl (gB g, cp_o_3, .inl (ar bf_o_4)))] H := hP
    have hD : va_D A [(aB, .inr (1, [.ref aV_o_2, .int (iI 0), .int (iI ml), .int (iI ct)])), (aV_o_2, .inl (gB g, cp_o_3, .inl (ar bf_o_4)))] := hD
    refine lv_aload_n hx hb dJ5_append_cf1ce_33 rfl (lv_at hl 1 rfl) ?_
    refine lv_dup hx hb dJ5_append_cf1ce_34 rfl ?_
    refine va_get (D := gD g) (ci := 1) (v := .int (iI ct)) (C := RJ4) (T := TJ4) (N := 4) hx hb hts hinJ4 hown hK hP 0 rfl rfl 3 (by decide) (hts (.fieldLink RJ5 79 "java/lang/AbstractStringBuilder" "count" "I") (List.mem_of_getElem? (i := 1) rfl)) (fun _ h9 => h9) rfl dJ5_append_cf1ce_35 ?_
    refine lv_iload_n hx hb dJ5_append_cf1ce_38 rfl (lv_at hl 0 rfl) ?_
    refine x_iadd hx hb dJ5_append_cf1ce_39 ?_
    obtain ⟨v_7, ev_7⟩ : ∃ z : Int, z = ct + 0 := ⟨_, rfl⟩
    refine x_top ev_7.symm ?_
    refine va_put (D := gD g) (ci := 1) (v := .int (iI v_7)) (ty := tyJ4 3) (C := RJ4) (T := TJ4) (N := 4) hx hb hts hinJ4 tyJ4 tyJ4_ok nmJ4 hown hK hP hD hS 0 rfl rfl 3 (by decide) (hts (.fieldLink RJ5 79 "java/lang/AbstractStringBuilder" "count" "I") (List.mem_of_getElem? (i := 1) rfl)) (fun _ h9 => h9) rfl (tyJ4_ok 3 (by decide)) rfl rfl (Nat.le_of_ble_eq_true rfl) dJ5_append_cf1ce_40 (fun H locs hP hD hS => ?_)
    have hP : va_P (gD g) vwCl [(aB, .inr (1, [.ref aV_o_2, .int (iI 0), .int (iI ml), .int (iI v_7)])), (aV_o_2, .inl (gB g, cp_o_3, .inl (ar bf_o_4)))] H := hP
    have hD : va_D A [(aB, .inr (1, [.ref aV_o_2, .int (iI 0), .int (iI ml), .int (iI v_7)])), (aV_o_2, .inl (gB g, cp_o_3, .inl (ar bf_o_4)))] := hD
    refine lv_aload_n hx hb dJ5_append_cf1ce_43 rfl (lv_at hl 1 rfl) ?_
    have q_8 : (ct + 0) = v_7 := by
      first
      | (
         first | rfl | omega | (subst_vars; first | rfl | omega))
      | fail "q9"
    have hw_9 := (congrArg (fun (z0 : Int) => ([(aB, .inr (1, [.ref aV_o_2, .int (iI 0), .int (iI ml), .int (iI z0)])), (aV_o_2, .inl (gB g, cp_o_3, .inl (ar bf_o_4)))] : va_W)) q_8.symm)
    rw [hQ9]
    exact x_aret hx hb hr (Or.inl ⟨_, rfl⟩) hlocks hP hD hS (S := Nat × Nat × (Int → Int)) (adr := (fun (u : Nat × Nat × (Int → Int)) => aB)) dJ5_append_cf1ce_44 ⟨aV_o_2, cp_o_3, bf_o_4⟩ rfl (show ((16 ≤ cp_o_3 ∧ cp_o_3 ≤ 100) ∧ ct + 0 ≤ (cp_o_3 : Int)) ∧ (∀ j : Int, 0 ≤ j → j < ct + 0 → bf_o_4 j = bf j) ∧ bnd bf_o_4 0 127 by
        first
        | (
           exact ⟨⟨hE.1.1, by omega⟩, fun j h1 h2 => hE.2.1 j h1 (by omega), hE.2.2⟩)
        | fail "q9") hw_9 (Nat.le_of_ble_eq_true rfl) (Nat.le_of_ble_eq_true rfl)
  rw [hH, hlo, hQ9] at goal_
  exact goal_

set_option maxHeartbeats 4000000 in
set_option maxRecDepth 100000 in
theorem c_J4_appendS0 (l : Launch) (g : xg) (sz : Nat) (aB aV : Nat) (ml ct : Int) (bf : Int → Int) (cp : Nat) (hcp : 16 ≤ cp ∧ cp ≤ 100) (hct : 0 ≤ ct ∧ ct ≤ 45) (hcc : ct ≤ (cp : Int)) (hbf : bnd bf 0 127) : Met l yJ4_append_15ec4 wsJ4_append_15ec4 { frames := 5, cells := 1, slots := 100, locals := 127 } (va_Pc [.ref aB, .ref (gK g 0)] (xB g [(aB, .inr (1, [.ref aV, .int (iI 0), .int (iI ml), .int (iI ct)])), (aV, .inl (gB g, cp, .inl (ar bf)))] sz)) (va_Qr (fun (u : Nat × Nat × (Int → Int)) => ((16 ≤ u.2.1 ∧ u.2.1 ≤ 100) ∧ ct + 0 ≤ (u.2.1 : Int)) ∧ (∀ j : Int, 0 ≤ j → j < ct + 0 → u.2.2 j = bf j) ∧ bnd u.2.2 0 127) (fun u a t => a = (fun (u : Nat × Nat × (Int → Int)) => aB) u ∧ xE g (va_A [(aB, .inr (1, [.ref aV, .int (iI 0), .int (iI ml), .int (iI ct)])), (aV, .inl (gB g, cp, .inl (ar bf)))] sz) ((fun (u : Nat × Nat × (Int → Int)) => [(aB, .inr (1, [.ref u.1, .int (iI 0), .int (iI ml), .int (iI (ct + 0))])), (u.1, .inl (gB g, u.2.1, .inl (ar u.2.2)))]) u) t) (va_A [(aB, .inr (1, [.ref aV, .int (iI 0), .int (iI ml), .int (iI ct)])), (aV, .inl (gB g, cp, .inl (ar bf)))] sz)) 1 100 (va_A [(aB, .inr (1, [.ref aV, .int (iI 0), .int (iI ml), .int (iI ct)])), (aV, .inl (gB g, cp, .inl (ar bf)))] sz) := by
  refine x_enter (y := yJ4_append_15ec4) (ws := wsJ4_append_15ec4) (g := g) (sz := sz) (av := [.ref aB, .ref (gK g 0)]) (WS := [(aB, .inr (1, [.ref aV, .int (iI 0), .int (iI ml), .int (iI ct)])), (aV, .inl (gB g, cp, .inl (ar bf)))]) (cc := cJ4_append_15ec4) (maxL := 2) (ret := some (.object "java/lang/StringBuilder")) (Qc := (fun A => (va_Qr (fun (u : Nat × Nat × (Int → Int)) => ((16 ≤ u.2.1 ∧ u.2.1 ≤ 100) ∧ ct + 0 ≤ (u.2.1 : Int)) ∧ (∀ j : Int, 0 ≤ j → j < ct + 0 → u.2.2 j = bf j) ∧ bnd u.2.2 0 127) (fun u a t => a = (fun (u : Nat × Nat × (Int → Int)) => aB) u ∧ xE g A ((fun (u : Nat × Nat × (Int → Int)) => [(aB, .inr (1, [.ref u.1, .int (iI 0), .int (iI ml), .int (iI (ct + 0))])), (u.1, .inl (gB g, u.2.1, .inl (ar u.2.2)))]) u) t) A))) (by decide) rfl (Nat.le_of_ble_eq_true rfl) ?_
  intro p e s m args below meth c A ls hx hb hr hml hown hts hlocks hname hC hP hD hS hA hl
  have hK := hC.1
  have hown : s.vm.findClass RJ4 = some m.cls := hown
  have hl : lv_has ls 2 [(0, .ref aB), (1, .ref (gK g 0))] := hl
  obtain ⟨H, hH⟩ : ∃ z, z = s.heap := ⟨_, rfl⟩
  obtain ⟨locs, hlo⟩ : ∃ z : List Loc, z = [] := ⟨_, rfl⟩
  obtain ⟨Q9, hQ9⟩ : ∃ z, z = MQ below (va_Qr (fun (u : Nat × Nat × (Int → Int)) => ((16 ≤ u.2.1 ∧ u.2.1 ≤ 100) ∧ ct + 0 ≤ (u.2.1 : Int)) ∧ (∀ j : Int, 0 ≤ j → j < ct + 0 → u.2.2 j = bf j) ∧ bnd u.2.2 0 127) (fun u a t => a = (fun (u : Nat × Nat × (Int → Int)) => aB) u ∧ xE g A ((fun (u : Nat × Nat × (Int → Int)) => [(aB, .inr (1, [.ref u.1, .int (iI 0), .int (iI ml), .int (iI (ct + 0))])), (u.1, .inl (gB g, u.2.1, .inl (ar u.2.2)))]) u) t) A) args s 1 100 A := ⟨_, rfl⟩
  have hP : va_P (gD g) vwCl [(aB, .inr (1, [.ref aV, .int (iI 0), .int (iI ml), .int (iI ct)])), (aV, .inl (gB g, cp, .inl (ar bf)))] H := by rw [hH]; exact hP
  have hS : va_S A s.heap H locs := by rw [hH, hlo]; exact hS
  have goal_ : W p l e { frames := 5, cells := 1, slots := 100, locals := 127 } s m args below meth c H locs 0 0 Q9 (F0 m 0 ls []) := by
    clear hH hlo
    refine lv_aload_n hx hb dJ4_append_15ec4_0 rfl (lv_at hl 0 rfl) ?_
    refine lv_aload_n hx hb dJ4_append_15ec4_1 rfl (lv_at hl 1 rfl) ?_
    refine x_callr (S := Nat × Nat × (Int → Int)) (wc := [(aB, .inr (1, [.ref aV, .int (iI 0), .int (iI ml), .int (iI ct)])), (aV, .inl (gB g, cp, .inl (ar bf)))]) (wr := []) hC hP hD hS hA [0, 1] [] [0, 1] rfl rfl (fun hpre => va_runSU (As := [.ref (gK g 0)]) (rest := []) (hK.1 1 _ rfl).2 ⟨hx, hb, hml, hown, hts⟩ (c_J5_appendS0 l g H.size aB aV ml ct bf cp (by first | (first | assumption | omega | exact bnd_up (by assumption) (by omega) (by omega)) | fail "q8") (by first | (first | assumption | omega | exact bnd_up (by assumption) (by omega) (by omega)) | fail "q8") (by first | (first | assumption | omega | exact bnd_up (by assumption) (by omega) (by omega)) | fail "q8") (by first | (first | assumption | omega | exact bnd_up (by assumption) (by omega) (by omega)) | fail "q8")) (va_cwSU 1 hts gJ4_append_15ec4_J5_append_cf1ce_s29 rfl rfl rfl (by decide +kernel) ⟨Nat.le_of_ble_eq_true rfl, Nat.le_of_ble_eq_true rfl⟩) ⟨xB_blind, va_recv hK hP (ci := 1) (q0 := 0) rfl rfl, hpre _⟩ rfl rfl hl.1 rfl (lv_room (Nat.le_of_ble_eq_true rfl)) dJ4_append_15ec4_2 ⟨Nat.le_of_ble_eq_true rfl, Nat.le_of_ble_eq_true rfl⟩) (fun (u : Nat × Nat × (Int → Int)) => [(aB, .inr (1, [.ref u.1, .int (iI 0), .int (iI ml), .int (iI (ct + 0))])), (u.1, .inl (gB g, u.2.1, .inl (ar u.2.2)))]) rfl rfl (by decide) (fun _ => rfl) rfl (fun u H locs hv_4 hP hD hS => ?_)
    obtain ⟨aV_o_1, cp_o_2, bf_o_3⟩ := u
    have hP : va_P (gD g) vwCl [(aB, .inr (1, [.ref aV_o_1, .int (iI 0), .int (iI ml), .int (iI (ct + 0))])), (aV_o_1, .inl (gB g, cp_o_2, .inl (ar bf_o_3)))] H := hP
    have hD : va_D A [(aB, .inr (1, [.ref aV_o_1, .int (iI 0), .int (iI ml), .int (iI (ct + 0))])), (aV_o_1, .inl (gB g, cp_o_2, .inl (ar bf_o_3)))] := hD
    have pv_4 : ((16 ≤ cp_o_2 ∧ cp_o_2 ≤ 100) ∧ ct + 0 ≤ (cp_o_2 : Int)) ∧ (∀ j : Int, 0 ≤ j → j < ct + 0 → bf_o_3 j = bf j) ∧ bnd bf_o_3 0 127 := hv_4
    refine W.eq (g2 := F0 m 5 ls [.ref aB]) rfl ?_
    have hA9 := pv_4
    refine lv_pop hx hb dJ4_append_15ec4_5 rfl ?_
    refine lv_aload_n hx hb dJ4_append_15ec4_6 rfl (lv_at hl 0 rfl) ?_
    rw [hQ9]
    exact x_aret hx hb hr (Or.inl ⟨_, rfl⟩) hlocks hP hD hS (S := Nat × Nat × (Int → Int)) (adr := (fun (u : Nat × Nat × (Int → Int)) => aB)) dJ4_append_15ec4_7 ⟨aV_o_1, cp_o_2, bf_o_3⟩ rfl (show ((16 ≤ cp_o_2 ∧ cp_o_2 ≤ 100) ∧ ct + 0 ≤ (cp_o_2 : Int)) ∧ (∀ j : Int, 0 ≤ j → j < ct + 0 → bf_o_3 j = bf j) ∧ bnd bf_o_3 0 127 by
        first
        | (
           exact hA9)
        | fail "q9") rfl (Nat.le_of_ble_eq_true rfl) (Nat.le_of_ble_eq_true rfl)
  rw [hH, hlo, hQ9] at goal_
  exact goal_

set_option maxHeartbeats 4000000 in
set_option maxRecDepth 100000 in
theorem c_J5_inflateIf1 (l : Launch) (g : xg) (sz : Nat) (aB aV : Nat) (ml ct : Int) : Met l yJ5_inflateIfNeededFor_a7421 wsJ5_inflateIfNeededFor_a7421 { frames := 1, cells := 0, slots := 0, locals := 20 } (va_Pc [.ref aB, .ref (gK g 1)] (xB g [(aB, .inr (1, [.ref aV, .int (iI 0), .int (iI ml), .int (iI ct)]))] sz)) (va_Qv (fun (u : Unit) => True) (fun u t => xE g (va_A [(aB, .inr (1, [.ref aV, .int (iI 0), .int (iI ml), .int (iI ct)]))] sz) ((fun (u : Unit) => [(aB, .inr (1, [.ref aV, .int (iI 0), .int (iI ml), .int (iI ct)]))]) u) t) (va_A [(aB, .inr (1, [.ref aV, .int (iI 0), .int (iI ml), .int (iI ct)]))] sz)) 0 0 (va_A [(aB, .inr (1, [.ref aV, .int (iI 0), .int (iI ml), .int (iI ct)]))] sz) := by
  refine x_enter (y := yJ5_inflateIfNeededFor_a7421) (ws := wsJ5_inflateIfNeededFor_a7421) (g := g) (sz := sz) (av := [.ref aB, .ref (gK g 1)]) (WS := [(aB, .inr (1, [.ref aV, .int (iI 0), .int (iI ml), .int (iI ct)]))]) (cc := cJ5_inflateIfNeededFor_a7421) (maxL := 2) (ret := none) (Qc := (fun A => (va_Qv (fun (u : Unit) => True) (fun u t => xE g A ((fun (u : Unit) => [(aB, .inr (1, [.ref aV, .int (iI 0), .int (iI ml), .int (iI ct)]))]) u) t) A))) (by decide) rfl (Nat.le_of_ble_eq_true rfl) ?_
  intro p e s m args below meth c A ls hx hb hr hml hown hts hlocks hname hC hP hD hS hA hl
  have hK := hC.1
  have hown : s.vm.findClass RJ5 = some m.cls := hown
  have hinJ4 : ∀ w ∈ u_ws RJ4 TJ4 4, w ∈ wsJ5_inflateIfNeededFor_a7421 := by decide +kernel
  have hl : lv_has ls 2 [(0, .ref aB), (1, .ref (gK g 1))] := hl
  obtain ⟨H, hH⟩ : ∃ z, z = s.heap := ⟨_, rfl⟩
  obtain ⟨locs, hlo⟩ : ∃ z : List Loc, z = [] := ⟨_, rfl⟩
  obtain ⟨Q9, hQ9⟩ : ∃ z, z = MQ below (va_Qv (fun (u : Unit) => True) (fun u t => xE g A ((fun (u : Unit) => [(aB, .inr (1, [.ref aV, .int (iI 0), .int (iI ml), .int (iI ct)]))]) u) t) A) args s 0 0 A := ⟨_, rfl⟩
  have hP : va_P (gD g) vwCl [(aB, .inr (1, [.ref aV, .int (iI 0), .int (iI ml), .int (iI ct)]))] H := by rw [hH]; exact hP
  have hS : va_S A s.heap H locs := by rw [hH, hlo]; exact hS
  have goal_ : W p l e { frames := 1, cells := 0, slots := 0, locals := 20 } s m args below meth c H locs 0 0 Q9 (F0 m 0 ls []) := by
    clear hH hlo
    refine va_gets hx hb hC.d.1 hS hown (hts (.fieldLink RJ5 18 "java/lang/String" "COMPACT_STRINGS" "Z") (List.mem_of_getElem? (i := 1) rfl)) (fun _ h9 => h9) dJ5_inflateIfNeededFor_a7421_0 ?_
    refine W.eq (g2 := F0 m 3 ls [.int (iI 1)]) rfl ?_
    refine x_if_eq (tgt := 21) hx hb (by omega) dJ5_inflateIfNeededFor_a7421_3 (by decide) (fun c_1 => ?_) (fun c_1 => ?_)
    · skip
      exact absurd c_1 (by decide)
    · skip
      refine lv_aload_n hx hb dJ5_inflateIfNeededFor_a7421_6 rfl (lv_at hl 0 rfl) ?_
      refine va_get (D := gD g) (ci := 1) (v := .int (iI 0)) (C := RJ4) (T := TJ4) (N := 4) hx hb hts hinJ4 hown hK hP 0 rfl rfl 1 (by decide) (hts (.fieldLink RJ5 22 "java/lang/AbstractStringBuilder" "coder" "B") (List.mem_of_getElem? (i := 2) rfl)) (fun _ h9 => h9) rfl dJ5_inflateIfNeededFor_a7421_7 ?_
      refine lv_aload_n hx hb dJ5_inflateIfNeededFor_a7421_10 rfl (lv_at hl 1 rfl) ?_
      refine x_calli (S := Unit) (wc := []) (wr := [(aB, .inr (1, [.ref aV, .int (iI 0), .int (iI ml), .int (iI ct)]))]) hC hP hD hS hA [] [0] [0] rfl rfl (fun hpre => va_runV (As := []) (rest := [.int (iI 0)]) ⟨hx, hb, hml, hown, hts⟩ (c_J0_coder1 l g H.size ) (cwV 0 hts gJ5_inflateIfNeededFor_a7421_J0_coder_7d493 rfl rfl rfl (by decide +kernel) ⟨Nat.le_of_ble_eq_true rfl, Nat.le_of_ble_eq_true rfl⟩) ⟨xB_blind, vk_recv hC.d.2.2.1 (i := 1) (by decide) hS, hpre _⟩ rfl rfl hl.1 rfl (lv_room (Nat.le_of_ble_eq_true rfl)) dJ5_inflateIfNeededFor_a7421_11 ⟨Nat.le_of_ble_eq_true rfl, Nat.le_of_ble_eq_true rfl⟩) (fun (u : Unit) => [(aB, .inr (1, [.ref aV, .int (iI 0), .int (iI ml), .int (iI ct)]))]) rfl rfl (by decide) (fun _ => rfl) rfl (fun u v_2 H locs hv_2 pv_2 hP hD hS => ?_)
      have hP : va_P (gD g) vwCl [(aB, .inr (1, [.ref aV, .int (iI 0), .int (iI ml), .int (iI ct)]))] H := hP
      have hD : va_D A [(aB, .inr (1, [.ref aV, .int (iI 0), .int (iI ml), .int (iI ct)]))] := hD
      have hv_2 : v_2 = 0 := hv_2
      subst hv_2
      refine x_cmp_eq (tgt := 21) hx hb (by omega) (by omega) dJ5_inflateIfNeededFor_a7421_14 (by decide) (fun c_3 => ?_) (fun c_3 => ?_)
      · skip
        rw [hQ9]
        exact x_vret hx hb hr hlocks hP hD hS (S := Unit) (Φ := _) (W1 := _) dJ5_inflateIfNeededFor_a7421_21 () trivial rfl (Nat.le_of_ble_eq_true rfl) (Nat.le_of_ble_eq_true rfl)
      · skip
        exact absurd c_3 (by decide)
  rw [hH, hlo, hQ9] at goal_
  exact goal_

set_option maxHeartbeats 4000000 in
set_option maxRecDepth 100000 in
theorem c_J0_getBytes1 (l : Launch) (g : xg) (sz : Nat) (aV : Nat) (ix : Int) (bf : Int → Int) (cp : Nat) (hcp : 16 ≤ cp ∧ cp ≤ 100) (hix : 0 ≤ ix ∧ ix + 1 ≤ (cp : Int)) : Met l yJ0_getBytes_840e7 wsJ0_getBytes_840e7 { frames := 1, cells := 0, slots := 0, locals := 60 } (va_Pc [.ref (gK g 1), .ref aV, .int (iI ix), .int (iI 0)] (xB g [(aV, .inl (gB g, cp, .inl (ar bf)))] sz)) (va_Qv (fun (u : Unit) => True) (fun u t => xE g (va_A [(aV, .inl (gB g, cp, .inl (ar bf)))] sz) ((fun (u : Unit) => [(aV, .inl (gB g, cp, .inl (ar (up bf ix 32))))]) u) t) (va_A [(aV, .inl (gB g, cp, .inl (ar bf)))] sz)) 0 0 (va_A [(aV, .inl (gB g, cp, .inl (ar bf)))] sz) := by
  refine x_enter (y := yJ0_getBytes_840e7) (ws := wsJ0_getBytes_840e7) (g := g) (sz := sz) (av := [.ref (gK g 1), .ref aV, .int (iI ix), .int (iI 0)]) (WS := [(aV, .inl (gB g, cp, .inl (ar bf)))]) (cc := cJ0_getBytes_840e7) (maxL := 4) (ret := none) (Qc := (fun A => (va_Qv (fun (u : Unit) => True) (fun u t => xE g A ((fun (u : Unit) => [(aV, .inl (gB g, cp, .inl (ar (up bf ix 32))))]) u) t) A))) (by decide) rfl (Nat.le_of_ble_eq_true rfl) ?_
  intro p e s m args below meth c A ls hx hb hr hml hown hts hlocks hname hC hP hD hS hA hl
  have hK := hC.1
  have hown : s.vm.findClass RJ0 = some m.cls := hown
  have hl : lv_has ls 4 [(0, .ref (gK g 1)), (1, .ref aV), (2, .int (iI ix)), (3, .int (iI 0))] := hl
  obtain ⟨H, hH⟩ : ∃ z, z = s.heap := ⟨_, rfl⟩
  obtain ⟨locs, hlo⟩ : ∃ z : List Loc, z = [] := ⟨_, rfl⟩
  obtain ⟨Q9, hQ9⟩ : ∃ z, z = MQ below (va_Qv (fun (u : Unit) => True) (fun u t => xE g A ((fun (u : Unit) => [(aV, .inl (gB g, cp, .inl (ar (up bf ix 32))))]) u) t) A) args s 0 0 A := ⟨_, rfl⟩
  have hP : va_P (gD g) vwCl [(aV, .inl (gB g, cp, .inl (ar bf)))] H := by rw [hH]; exact hP
  have hS : va_S A s.heap H locs := by rw [hH, hlo]; exact hS
  have goal_ : W p l e { frames := 1, cells := 0, slots := 0, locals := 60 } s m args below meth c H locs 0 0 Q9 (F0 m 0 ls []) := by
    clear hH hlo
    refine lv_aload_n hx hb dJ0_getBytes_840e7_0 rfl (lv_at hl 0 rfl) ?_
    refine x_calli (S := Unit) (wc := []) (wr := [(aV, .inl (gB g, cp, .inl (ar bf)))]) hC hP hD hS hA [] [0] [0] rfl rfl (fun hpre => va_runV (As := []) (rest := []) ⟨hx, hb, hml, hown, hts⟩ (c_J0_coder1 l g H.size ) (cwV 0 hts gJ0_getBytes_840e7_J0_coder_7d493 rfl rfl rfl (by decide +kernel) ⟨Nat.le_of_ble_eq_true rfl, Nat.le_of_ble_eq_true rfl⟩) ⟨xB_blind, vk_recv hC.d.2.2.1 (i := 1) (by decide) hS, hpre _⟩ rfl rfl hl.1 rfl (lv_room (Nat.le_of_ble_eq_true rfl)) dJ0_getBytes_840e7_1 ⟨Nat.le_of_ble_eq_true rfl, Nat.le_of_ble_eq_true rfl⟩) (fun (u : Unit) => [(aV, .inl (gB g, cp, .inl (ar bf)))]) rfl rfl (by decide) (fun _ => rfl) rfl (fun u v_1 H locs hv_1 pv_1 hP hD hS => ?_)
    have hP : va_P (gD g) vwCl [(aV, .inl (gB g, cp, .inl (ar bf)))] H := hP
    have hD : va_D A [(aV, .inl (gB g, cp, .inl (ar bf)))] := hD
    have hv_1 : v_1 = 0 := hv_1
    subst hv_1
    refine lv_iload_n hx hb dJ0_getBytes_840e7_4 rfl (lv_at hl 3 rfl) ?_
    refine x_cmp_ne (tgt := 28) hx hb (by omega) (by omega) dJ0_getBytes_840e7_5 (by decide) (fun c_2 => ?_) (fun c_2 => ?_)
    · skip
      exact absurd c_2 (by decide)
    · skip
      refine lv_aload_n hx hb dJ0_getBytes_840e7_8 rfl (lv_at hl 0 rfl) ?_
      refine vk_getf hx hb (hC.d.2.2.1.1 1 (by decide)).2.2.1 hS hown (hts (.fieldLink RJ0 9 "java/lang/String" "value" "[B") (List.mem_of_getElem? (i := 1) rfl)) (fun _ h9 => h9) dJ0_getBytes_840e7_9 ?_
      refine W.eq (g2 := F0 m 12 ls [.ref (gV g 1)]) rfl ?_
      refine x_iconst hx hb dJ0_getBytes_840e7_12 ?_
      refine lv_aload_n hx hb dJ0_getBytes_840e7_13 rfl (lv_at hl 1 rfl) ?_
      refine lv_iload_n hx hb dJ0_getBytes_840e7_14 rfl (lv_at hl 2 rfl) ?_
      refine lv_iload_n hx hb dJ0_getBytes_840e7_15 rfl (lv_at hl 3 rfl) ?_
      refine x_ishl0 hx hb dJ0_getBytes_840e7_16 ?_
      refine lv_aload_n hx hb dJ0_getBytes_840e7_17 rfl (lv_at hl 0 rfl) ?_
      refine vk_getf hx hb (hC.d.2.2.1.1 1 (by decide)).2.2.1 hS hown (hts (.fieldLink RJ0 9 "java/lang/String" "value" "[B") (List.mem_of_getElem? (i := 1) rfl)) (fun _ h9 => h9) dJ0_getBytes_840e7_18 ?_
      refine W.eq (g2 := F0 m 21 ls [.ref (gV g 1), .int (iI ix), .ref aV, .int (iI 0), .ref (gV g 1)]) rfl ?_
      refine va_tlen hx hb (hC.d.2.2.1.1 1 (by decide)).2.2.2 hS (v := iI 1) (by decide) dJ0_getBytes_840e7_21 ?_
      refine x_copyS1 hx hb (hml.trans hl.1.symm) hown (hts (.methodLink RJ0 212 arraycopyName) (List.mem_of_getElem? (i := 2) rfl)) (hts (.native arraycopyName) (List.mem_of_getElem? (i := 3) rfl)) (hts (.static arraycopyName) (List.mem_of_getElem? (i := 4) rfl)) (hts (.initialized "java/lang/System") (List.mem_of_getElem? (i := 5) rfl)) hC hP hD hS 0 rfl (by omega) (by omega) (Nat.le_of_ble_eq_true rfl) (by decide) dJ0_getBytes_840e7_22 (fun H locs hP hD hS => ?_)
      have hP : va_P (gD g) vwCl [(aV, .inl (gB g, cp, .inl (ar (up bf ix 32))))] H := hP
      have hD : va_D A [(aV, .inl (gB g, cp, .inl (ar (up bf ix 32))))] := hD
      refine lv_goto (tgt := 43) hx hb dJ0_getBytes_840e7_25 (by decide) ?_
      rw [hQ9]
      exact x_vret hx hb hr hlocks hP hD hS (S := Unit) (Φ := _) (W1 := _) dJ0_getBytes_840e7_43 () trivial rfl (Nat.le_of_ble_eq_true rfl) (Nat.le_of_ble_eq_true rfl)
  rw [hH, hlo, hQ9] at goal_
  exact goal_

set_option maxHeartbeats 4000000 in
set_option maxRecDepth 100000 in
theorem c_J5_putStringAt1 (l : Launch) (g : xg) (sz : Nat) (aB aV : Nat) (ml ct ix : Int) (bf : Int → Int) (cp : Nat) (hcp : 16 ≤ cp ∧ cp ≤ 100) (hix : 0 ≤ ix ∧ ix + 1 ≤ (cp : Int)) : Met l yJ5_putStringAt_47b60 wsJ5_putStringAt_47b60 { frames := 2, cells := 0, slots := 0, locals := 83 } (va_Pc [.ref aB, .int (iI ix), .ref (gK g 1)] (xB g [(aB, .inr (1, [.ref aV, .int (iI 0), .int (iI ml), .int (iI ct)])), (aV, .inl (gB g, cp, .inl (ar bf)))] sz)) (va_Qv (fun (u : Unit) => True) (fun u t => xE g (va_A [(aB, .inr (1, [.ref aV, .int (iI 0), .int (iI ml), .int (iI ct)])), (aV, .inl (gB g, cp, .inl (ar bf)))] sz) ((fun (u : Unit) => [(aB, .inr (1, [.ref aV, .int (iI 0), .int (iI ml), .int (iI ct)])), (aV, .inl (gB g, cp, .inl (ar (up bf ix 32))))]) u) t) (va_A [(aB, .inr (1, [.ref aV, .int (iI 0), .int (iI ml), .int (iI ct)])), (aV, .inl (gB g, cp, .inl (ar bf)))] sz)) 0 0 (va_A [(aB, .inr (1, [.ref aV, .int (iI 0), .int (iI ml), .int (iI ct)])), (aV, .inl (gB g, cp, .inl (ar bf)))] sz) := by
  refine x_enter (y := yJ5_putStringAt_47b60) (ws := wsJ5_putStringAt_47b60) (g := g) (sz := sz) (av := [.ref aB, .int (iI ix), .ref (gK g 1)]) (WS := [(aB, .inr (1, [.ref aV, .int (iI 0), .int (iI ml), .int (iI ct)])), (aV, .inl (gB g, cp, .inl (ar bf)))]) (cc := cJ5_putStringAt_47b60) (maxL := 3) (ret := none) (Qc := (fun A => (va_Qv (fun (u : Unit) => True) (fun u t => xE g A ((fun (u : Unit) => [(aB, .inr (1, [.ref aV, .int (iI 0), .int (iI ml), .int (iI ct)])), (aV, .inl (gB g, cp, .inl (ar (up bf ix 32))))]) u) t) A))) (by decide) rfl (Nat.le_of_ble_eq_true rfl) ?_
  intro p e s m args below meth c A ls hx hb hr hml hown hts hlocks hname hC hP hD hS hA hl
  have hK := hC.1
  have hown : s.vm.findClass RJ5 = some m.cls := hown
  have hinJ4 : ∀ w ∈ u_ws RJ4 TJ4 4, w ∈ wsJ5_putStringAt_47b60 := by decide +kernel
  have hl : lv_has ls 3 [(0, .ref aB), (1, .int (iI ix)), (2, .ref (gK g 1))] := hl
  obtain ⟨H, hH⟩ : ∃ z, z = s.heap := ⟨_, rfl⟩
  obtain ⟨locs, hlo⟩ : ∃ z : List Loc, z = [] := ⟨_, rfl⟩
  obtain ⟨Q9, hQ9⟩ : ∃ z, z = MQ below (va_Qv (fun (u : Unit) => True) (fun u t => xE g A ((fun (u : Unit) => [(aB, .inr (1, [.ref aV, .int (iI 0), .int (iI ml), .int (iI ct)])), (aV, .inl (gB g, cp, .inl (ar (up bf ix 32))))]) u) t) A) args s 0 0 A := ⟨_, rfl⟩
  have hP : va_P (gD g) vwCl [(aB, .inr (1, [.ref aV, .int (iI 0), .int (iI ml), .int (iI ct)])), (aV, .inl (gB g, cp, .inl (ar bf)))] H := by rw [hH]; exact hP
  have hS : va_S A s.heap H locs := by rw [hH, hlo]; exact hS
  have goal_ : W p l e { frames := 2, cells := 0, slots := 0, locals := 83 } s m args below meth c H locs 0 0 Q9 (F0 m 0 ls []) := by
    clear hH hlo
    refine lv_aload_n hx hb dJ5_putStringAt_47b60_0 rfl (lv_at hl 0 rfl) ?_
    refine lv_aload_n hx hb dJ5_putStringAt_47b60_1 rfl (lv_at hl 2 rfl) ?_
    refine x_callv (S := Unit) (wc := [(aB, .inr (1, [.ref aV, .int (iI 0), .int (iI ml), .int (iI ct)]))]) (wr := [(aV, .inl (gB g, cp, .inl (ar bf)))]) hC hP hD hS hA [0] [1] [1, 0] rfl rfl (fun hpre => va_runU (As := [.ref (gK g 1)]) (rest := []) ⟨hx, hb, hml, hown, hts⟩ (c_J5_inflateIf1 l g H.size aB aV ml ct) (va_cwU 1 hts gJ5_putStringAt_47b60_J5_inflateIfNeededFor_a7421_u397J4 rfl rfl rfl rfl (by decide +kernel) ⟨Nat.le_of_ble_eq_true rfl, Nat.le_of_ble_eq_true rfl⟩) ⟨xB_blind, va_recv hK hP (ci := 1) (q0 := 0) rfl rfl, hpre _⟩ rfl rfl hl.1 rfl (lv_room (Nat.le_of_ble_eq_true rfl)) dJ5_putStringAt_47b60_2 ⟨Nat.le_of_ble_eq_true rfl, Nat.le_of_ble_eq_true rfl⟩) (fun (u : Unit) => [(aB, .inr (1, [.ref aV, .int (iI 0), .int (iI ml), .int (iI ct)])), (aV, .inl (gB g, cp, .inl (ar bf)))]) rfl rfl (by decide) (fun _ => rfl) rfl (fun u H locs hv_1 hP hD hS => ?_)
    have hP : va_P (gD g) vwCl [(aB, .inr (1, [.ref aV, .int (iI 0), .int (iI ml), .int (iI ct)])), (aV, .inl (gB g, cp, .inl (ar bf)))] H := hP
    have hD : va_D A [(aB, .inr (1, [.ref aV, .int (iI 0), .int (iI ml), .int (iI ct)])), (aV, .inl (gB g, cp, .inl (ar bf)))] := hD
    refine lv_aload_n hx hb dJ5_putStringAt_47b60_5 rfl (lv_at hl 2 rfl) ?_
    refine lv_aload_n hx hb dJ5_putStringAt_47b60_6 rfl (lv_at hl 0 rfl) ?_
    refine va_get (D := gD g) (ci := 1) (v := .ref aV) (C := RJ4) (T := TJ4) (N := 4) hx hb hts hinJ4 hown hK hP 0 rfl rfl 0 (by decide) (hts (.fieldLink RJ5 15 "java/lang/AbstractStringBuilder" "value" "[B") (List.mem_of_getElem? (i := 1) rfl)) (fun _ h9 => h9) rfl dJ5_putStringAt_47b60_7 ?_
    refine lv_iload_n hx hb dJ5_putStringAt_47b60_10 rfl (lv_at hl 1 rfl) ?_
    refine lv_aload_n hx hb dJ5_putStringAt_47b60_11 rfl (lv_at hl 0 rfl) ?_
    refine va_get (D := gD g) (ci := 1) (v := .int (iI 0)) (C := RJ4) (T := TJ4) (N := 4) hx hb hts hinJ4 hown hK hP 0 rfl rfl 1 (by decide) (hts (.fieldLink RJ5 22 "java/lang/AbstractStringBuilder" "coder" "B") (List.mem_of_getElem? (i := 2) rfl)) (fun _ h9 => h9) rfl dJ5_putStringAt_47b60_12 ?_
    refine x_callv (S := Unit) (wc := [(aV, .inl (gB g, cp, .inl (ar bf)))]) (wr := [(aB, .inr (1, [.ref aV, .int (iI 0), .int (iI ml), .int (iI ct)]))]) hC hP hD hS hA [1] [0] [0, 1] rfl rfl (fun hpre => va_runV (As := [.ref aV, .int (iI ix), .int (iI 0)]) (rest := []) ⟨hx, hb, hml, hown, hts⟩ (c_J0_getBytes1 l g H.size aV ix bf cp (by first | (first | assumption | omega | exact bnd_up (by assumption) (by omega) (by omega)) | fail "q8") (by first | (first | assumption | omega | exact bnd_up (by assumption) (by omega) (by omega)) | fail "q8")) (cwV 3 hts gJ5_putStringAt_47b60_J0_getBytes_840e7 rfl rfl rfl (by decide +kernel) ⟨Nat.le_of_ble_eq_true rfl, Nat.le_of_ble_eq_true rfl⟩) ⟨xB_blind, vk_recv hC.d.2.2.1 (i := 1) (by decide) hS, hpre _⟩ rfl rfl hl.1 rfl (lv_room (Nat.le_of_ble_eq_true rfl)) dJ5_putStringAt_47b60_15 ⟨Nat.le_of_ble_eq_true rfl, Nat.le_of_ble_eq_true rfl⟩) (fun (u : Unit) => [(aB, .inr (1, [.ref aV, .int (iI 0), .int (iI ml), .int (iI ct)])), (aV, .inl (gB g, cp, .inl (ar (up bf ix 32))))]) rfl rfl (by decide) (fun _ => rfl) rfl (fun u H locs hv_2 hP hD hS => ?_)
    have hP : va_P (gD g) vwCl [(aB, .inr (1, [.ref aV, .int (iI 0), .int (iI ml), .int (iI ct)])), (aV, .inl (gB g, cp, .inl (ar (up bf ix 32))))] H := hP
    have hD : va_D A [(aB, .inr (1, [.ref aV, .int (iI 0), .int (iI ml), .int (iI ct)])), (aV, .inl (gB g, cp, .inl (ar (up bf ix 32))))] := hD
    rw [hQ9]
    exact x_vret hx hb hr hlocks hP hD hS (S := Unit) (Φ := _) (W1 := _) dJ5_putStringAt_47b60_18 () trivial rfl (Nat.le_of_ble_eq_true rfl) (Nat.le_of_ble_eq_true rfl)
  rw [hH, hlo, hQ9] at goal_
  exact goal_

set_option maxHeartbeats 4000000 in
set_option maxRecDepth 100000 in
theorem c_J5_appendS1 (l : Launch) (g : xg) (sz : Nat) (aB aV : Nat) (ml ct : Int) (bf : Int → Int) (cp : Nat) (hcp : 16 ≤ cp ∧ cp ≤ 100) (hct : 0 ≤ ct ∧ ct ≤ 45) (hcc : ct ≤ (cp : Int)) (hbf : bnd bf 0 127) : Met l yJ5_append_cf1ce wsJ5_append_cf1ce { frames := 4, cells := 1, slots := 100, locals := 105 } (va_Pc [.ref aB, .ref (gK g 1)] (xB g [(aB, .inr (1, [.ref aV, .int (iI 0), .int (iI ml), .int (iI ct)])), (aV, .inl (gB g, cp, .inl (ar bf)))] sz)) (va_Qr (fun (u : Nat × Nat × (Int → Int)) => ((16 ≤ u.2.1 ∧ u.2.1 ≤ 100) ∧ ct + 1 ≤ (u.2.1 : Int)) ∧ (∀ j : Int, 0 ≤ j → j < ct + 1 → u.2.2 j = (up bf ct 32) j) ∧ bnd u.2.2 0 127) (fun u a t => a = (fun (u : Nat × Nat × (Int → Int)) => aB) u ∧ xE g (va_A [(aB, .inr (1, [.ref aV, .int (iI 0), .int (iI ml), .int (iI ct)])), (aV, .inl (gB g, cp, .inl (ar bf)))] sz) ((fun (u : Nat × Nat × (Int → Int)) => [(aB, .inr (1, [.ref u.1, .int (iI 0), .int (iI ml), .int (iI (ct + 1))])), (u.1, .inl (gB g, u.2.1, .inl (ar u.2.2)))]) u) t) (va_A [(aB, .inr (1, [.ref aV, .int (iI 0), .int (iI ml), .int (iI ct)])), (aV, .inl (gB g, cp, .inl (ar bf)))] sz)) 1 100 (va_A [(aB, .inr (1, [.ref aV, .int (iI 0), .int (iI ml), .int (iI ct)])), (aV, .inl (gB g, cp, .inl (ar bf)))] sz) := by
  refine x_enter (y := yJ5_append_cf1ce) (ws := wsJ5_append_cf1ce) (g := g) (sz := sz) (av := [.ref aB, .ref (gK g 1)]) (WS := [(aB, .inr (1, [.ref aV, .int (iI 0), .int (iI ml), .int (iI ct)])), (aV, .inl (gB g, cp, .inl (ar bf)))]) (cc := cJ5_append_cf1ce) (maxL := 3) (ret := some (.object "java/lang/AbstractStringBuilder")) (Qc := (fun A => (va_Qr (fun (u : Nat × Nat × (Int → Int)) => ((16 ≤ u.2.1 ∧ u.2.1 ≤ 100) ∧ ct + 1 ≤ (u.2.1 : Int)) ∧ (∀ j : Int, 0 ≤ j → j < ct + 1 → u.2.2 j = (up bf ct 32) j) ∧ bnd u.2.2 0 127) (fun u a t => a = (fun (u : Nat × Nat × (Int → Int)) => aB) u ∧ xE g A ((fun (u : Nat × Nat × (Int → Int)) => [(aB, .inr (1, [.ref u.1, .int (iI 0), .int (iI ml), .int (iI (ct + 1))])), (u.1, .inl (gB g, u.2.1, .inl (ar u.2.2)))]) u) t) A))) (by decide) rfl (Nat.le_of_ble_eq_true rfl) ?_
  intro p e s m args below meth c A ls hx hb hr hml hown hts hlocks hname hC hP hD hS hA hl
  have hK := hC.1
  have hown : s.vm.findClass RJ5 = some m.cls := hown
  have hinJ4 : ∀ w ∈ u_ws RJ4 TJ4 4, w ∈ wsJ5_append_cf1ce := by decide +kernel
  have hl : lv_has ls 3 [(0, .ref aB), (1, .ref (gK g 1))] := hl
  obtain ⟨H, hH⟩ : ∃ z, z = s.heap := ⟨_, rfl⟩
  obtain ⟨locs, hlo⟩ : ∃ z : List Loc, z = [] := ⟨_, rfl⟩
  obtain ⟨Q9, hQ9⟩ : ∃ z, z = MQ below (va_Qr (fun (u : Nat × Nat × (Int → Int)) => ((16 ≤ u.2.1 ∧ u.2.1 ≤ 100) ∧ ct + 1 ≤ (u.2.1 : Int)) ∧ (∀ j : Int, 0 ≤ j → j < ct + 1 → u.2.2 j = (up bf ct 32) j) ∧ bnd u.2.2 0 127) (fun u a t => a = (fun (u : Nat × Nat × (Int → Int)) => aB) u ∧ xE g A ((fun (u : Nat × Nat × (Int → Int)) => [(aB, .inr (1, [.ref u.1, .int (iI 0), .int (iI ml), .int (iI (ct + 1))])), (u.1, .inl (gB g, u.2.1, .inl (ar u.2.2)))]) u) t) A) args s 1 100 A := ⟨_, rfl⟩
  have hP : va_P (gD g) vwCl [(aB, .inr (1, [.ref aV, .int (iI 0), .int (iI ml), .int (iI ct)])), (aV, .inl (gB g, cp, .inl (ar bf)))] H := by rw [hH]; exact hP
  have hS : va_S A s.heap H locs := by rw [hH, hlo]; exact hS
  have goal_ : W p l e { frames := 4, cells := 1, slots := 100, locals := 105 } s m args below meth c H locs 0 0 Q9 (F0 m 0 ls []) := by
    clear hH hlo
    refine lv_aload_n hx hb dJ5_append_cf1ce_0 rfl (lv_at hl 1 rfl) ?_
    refine lv_ifnonnull (tgt := 9) hx hb dJ5_append_cf1ce_1 (by decide) ?_
    refine lv_aload_n hx hb dJ5_append_cf1ce_9 rfl (lv_at hl 1 rfl) ?_
    refine x_calli (S := Unit) (wc := []) (wr := [(aB, .inr (1, [.ref aV, .int (iI 0), .int (iI ml), .int (iI ct)])), (aV, .inl (gB g, cp, .inl (ar bf)))]) hC hP hD hS hA [] [0, 1] [0, 1] rfl rfl (fun hpre => va_runV (As := []) (rest := []) ⟨hx, hb, hml, hown, hts⟩ (c_J0_length1 l g H.size ) (cwV 0 hts gJ5_append_cf1ce_J0_length_8abf5 rfl rfl rfl (by decide +kernel) ⟨Nat.le_of_ble_eq_true rfl, Nat.le_of_ble_eq_true rfl⟩) ⟨xB_blind, vk_recv hC.d.2.2.1 (i := 1) (by decide) hS, hpre _⟩ rfl rfl hl.1 rfl (lv_room (Nat.le_of_ble_eq_true rfl)) dJ5_append_cf1ce_10 ⟨Nat.le_of_ble_eq_true rfl, Nat.le_of_ble_eq_true rfl⟩) (fun (u : Unit) => [(aB, .inr (1, [.ref aV, .int (iI 0), .int (iI ml), .int (iI ct)])), (aV, .inl (gB g, cp, .inl (ar bf)))]) rfl rfl (by decide) (fun _ => rfl) rfl (fun u v_1 H locs hv_1 pv_1 hP hD hS => ?_)
    have hP : va_P (gD g) vwCl [(aB, .inr (1, [.ref aV, .int (iI 0), .int (iI ml), .int (iI ct)])), (aV, .inl (gB g, cp, .inl (ar bf)))] H := hP
    have hD : va_D A [(aB, .inr (1, [.ref aV, .int (iI 0), .int (iI ml), .int (iI ct)])), (aV, .inl (gB g, cp, .inl (ar bf)))] := hD
    have hv_1 : v_1 = 1 := hv_1
    subst hv_1
    refine lv_istore_n (lv' := [(2, .int (iI 1)), (0, .ref aB), (1, .ref (gK g 1))]) hx hb dJ5_append_cf1ce_13 rfl hl (by decide) rfl (fun ls hl => ?_)
    refine lv_aload_n hx hb dJ5_append_cf1ce_14 rfl (lv_at hl 1 rfl) ?_
    refine lv_aload_n hx hb dJ5_append_cf1ce_15 rfl (lv_at hl 1 rfl) ?_
    refine va_get (D := gD g) (ci := 1) (v := .int (iI ct)) (C := RJ4) (T := TJ4) (N := 4) hx hb hts hinJ4 hown hK hP 0 rfl rfl 3 (by decide) (hts (.fieldLink RJ5 79 "java/lang/AbstractStringBuilder" "count" "I") (List.mem_of_getElem? (i := 1) rfl)) (fun _ h9 => h9) rfl dJ5_append_cf1ce_16 ?_
    refine lv_iload_n hx hb dJ5_append_cf1ce_19 rfl (lv_at hl 0 rfl) ?_
    refine x_iadd hx hb dJ5_append_cf1ce_20 ?_
    refine x_callv (S := Nat × Nat × (Int → Int)) (wc := [(aB, .inr (1, [.ref aV, .int (iI 0), .int (iI ml), .int (iI ct)])), (aV, .inl (gB g, cp, .inl (ar bf)))]) (wr := []) hC hP hD hS hA [0, 1] [] [0, 1] rfl rfl (fun hpre => va_runU (As := [.int (iI (ct + 1))]) (rest := []) ⟨hx, hb, hml, hown, hts⟩ (c_J5_ensureCapacityInternal_d00df l g H.size aB aV ml ct (ct + 1) bf cp (by first | (first | assumption | omega | exact bnd_up (by assumption) (by omega) (by omega)) | fail "q8") (by first | (first | assumption | omega | exact bnd_up (by assumption) (by omega) (by omega)) | fail "q8") (by first | (first | assumption | omega | exact bnd_up (by assumption) (by omega) (by omega)) | fail "q8")) (va_cwU 1 hts gJ5_append_cf1ce_J5_ensureCapacityInternal_d00df_u100J4 rfl rfl rfl rfl (by decide +kernel) ⟨Nat.le_of_ble_eq_true rfl, Nat.le_of_ble_eq_true rfl⟩) ⟨xB_blind, va_recv hK hP (ci := 1) (q0 := 0) rfl rfl, hpre _⟩ rfl rfl hl.1 rfl (lv_room (Nat.le_of_ble_eq_true rfl)) dJ5_append_cf1ce_21 ⟨Nat.le_of_ble_eq_true rfl, Nat.le_of_ble_eq_true rfl⟩) (fun (u : Nat × Nat × (Int → Int)) => [(aB, .inr (1, [.ref u.1, .int (iI 0), .int (iI ml), .int (iI ct)])), (u.1, .inl (gB g, u.2.1, .inl (ar u.2.2)))]) rfl rfl (by decide) (fun _ => rfl) rfl (fun u H locs hv_5 hP hD hS => ?_)
    obtain ⟨aV_o_2, cp_o_3, bf_o_4⟩ := u
    have hP : va_P (gD g) vwCl [(aB, .inr (1, [.ref aV_o_2, .int (iI 0), .int (iI ml), .int (iI ct)])), (aV_o_2, .inl (gB g, cp_o_3, .inl (ar bf_o_4)))] H := hP
    have hD : va_D A [(aB, .inr (1, [.ref aV_o_2, .int (iI 0), .int (iI ml), .int (iI ct)])), (aV_o_2, .inl (gB g, cp_o_3, .inl (ar bf_o_4)))] := hD
    have pv_5 : ((16 ≤ cp_o_3 ∧ cp_o_3 ≤ 100) ∧ (ct + 1) ≤ (cp_o_3 : Int)) ∧ (∀ j : Int, 0 ≤ j → j < (cp : Int) → bf_o_4 j = bf j) ∧ bnd bf_o_4 0 127 := hv_5
    have hE := pv_5
    refine lv_aload_n hx hb dJ5_append_cf1ce_24 rfl (lv_at hl 1 rfl) ?_
    refine lv_aload_n hx hb dJ5_append_cf1ce_25 rfl (lv_at hl 1 rfl) ?_
    refine va_get (D := gD g) (ci := 1) (v := .int (iI ct)) (C := RJ4) (T := TJ4) (N := 4) hx hb hts hinJ4 hown hK hP 0 rfl rfl 3 (by decide) (hts (.fieldLink RJ5 79 "java/lang/AbstractStringBuilder" "count" "I") (List.mem_of_getElem? (i := 1) rfl)) (fun _ h9 => h9) rfl dJ5_append_cf1ce_26 ?_
    refine lv_aload_n hx hb dJ5_append_cf1ce_29 rfl (lv_at hl 2 rfl) ?_
    refine x_callv (S := Unit) (wc := [(aB, .inr (1, [.ref aV_o_2, .int (iI 0), .int (iI ml), .int (iI ct)])), (aV_o_2, .inl (gB g, cp_o_3, .inl (ar bf_o_4)))]) (wr := []) hC hP hD hS hA [0, 1] [] [0, 1] rfl rfl (fun hpre => va_runU (As := [.int (iI ct), .ref (gK g 1)]) (rest := []) ⟨hx, hb, hml, hown, hts⟩ (c_J5_putStringAt1 l g H.size aB aV_o_2 ml ct ct bf_o_4 cp_o_3 (by first | (first | assumption | omega | exact bnd_up (by assumption) (by omega) (by omega)) | fail "q8") (by first | (first | assumption | omega | exact bnd_up (by assumption) (by omega) (by omega)) | fail "q8")) (va_cwU 2 hts gJ5_append_cf1ce_J5_putStringAt_47b60_u208J4 rfl rfl rfl rfl (by decide +kernel) ⟨Nat.le_of_ble_eq_true rfl, Nat.le_of_ble_eq_true rfl⟩) ⟨xB_blind, va_recv hK hP (ci := 1) (q0 := 0) rfl rfl, hpre _⟩ rfl rfl hl.1 rfl (lv_room (Nat.le_of_ble_eq_true rfl)) dJ5_append_cf1ce_30 ⟨Nat.le_of_ble_eq_true rfl, Nat.le_of_ble_eq_true rfl⟩) (fun (u : Unit) => [(aB, .inr (1, [.ref aV_o_2, .int (iI 0), .int (iI ml), .int (iI ct)])), (aV_o_2, .inl (gB g, cp_o_3, .inl (ar (up bf_o_4 ct 32))))]) rfl rfl (by decide) (fun _ => rfl) rfl (fun u H locs hv_6 hP hD hS => ?_)
    have hP : va_P (gD g) vwCl [(aB, .inr (1, [.ref aV_o_2, .int (iI 0), .int (iI ml), .int (iI ct)])), (aV_o_2, .inl (gB g, cp_o_3, .inl (ar (up bf_o_4 ct 32))))] H := hP
    have hD : va_D A [(aB, .inr (1, [.ref aV_o_2, .int (iI 0), .int (iI ml), .int (iI ct)])), (aV_o_2, .inl (gB g, cp_o_3, .inl (ar (up bf_o_4 ct 32))))] := hD
    refine lv_aload_n hx hb dJ5_append_cf1ce_33 rfl (lv_at hl 1 rfl) ?_
    refine lv_dup hx hb dJ5_append_cf1ce_34 rfl ?_
    refine va_get (D := gD g) (ci := 1) (v := .int (iI ct)) (C := RJ4) (T := TJ4) (N := 4) hx hb hts hinJ4 hown hK hP 0 rfl rfl 3 (by decide) (hts (.fieldLink RJ5 79 "java/lang/AbstractStringBuilder" "count" "I") (List.mem_of_getElem? (i := 1) rfl)) (fun _ h9 => h9) rfl dJ5_append_cf1ce_35 ?_
    refine lv_iload_n hx hb dJ5_append_cf1ce_38 rfl (lv_at hl 0 rfl) ?_
    refine x_iadd hx hb dJ5_append_cf1ce_39 ?_
    obtain ⟨v_7, ev_7⟩ : ∃ z : Int, z = ct + 1 := ⟨_, rfl⟩
    refine x_top ev_7.symm ?_
    refine va_put (D := gD g) (ci := 1) (v := .int (iI v_7)) (ty := tyJ4 3) (C := RJ4) (T := TJ4) (N := 4) hx hb hts hinJ4 tyJ4 tyJ4_ok nmJ4 hown hK hP hD hS 0 rfl rfl 3 (by decide) (hts (.fieldLink RJ5 79 "java/lang/AbstractStringBuilder" "count" "I") (List.mem_of_getElem? (i := 1) rfl)) (fun _ h9 => h9) rfl (tyJ4_ok 3 (by decide)) rfl rfl (Nat.le_of_ble_eq_true rfl) dJ5_append_cf1ce_40 (fun H locs hP hD hS => ?_)
    have hP : va_P (gD g) vwCl [(aB, .inr (1, [.ref aV_o_2, .int (iI 0), .int (iI ml), .int (iI v_7)])), (aV_o_2, .inl (gB g, cp_o_3, .inl (ar (up bf_o_4 ct 32))))] H := hP
    have hD : va_D A [(aB, .inr (1, [.ref aV_o_2, .int (iI 0), .int (iI ml), .int (iI v_7)])), (aV_o_2, .inl (gB g, cp_o_3, .inl (ar (up bf_o_4 ct 32))))] := hD
    refine lv_aload_n hx hb dJ5_append_cf1ce_43 rfl (lv_at hl 1 rfl) ?_
    have q_8 : (ct + 1) = v_7 := by
      first
      | (
         first | rfl | omega | (subst_vars; first | rfl | omega))
      | fail "q9"
    have q_9 : (up bf_o_4 ct 32) = (up bf_o_4 ct 32) := by
      first
      | (
         first | rfl | omega | (subst_vars; first | rfl | omega))
      | fail "q9"
    have hw_10 := (congr (congrArg (fun (z0 : Int) (z1 : Int → Int) => ([(aB, .inr (1, [.ref aV_o_2, .int (iI 0), .int (iI ml), .int (iI z0)])), (aV_o_2, .inl (gB g, cp_o_3, .inl (ar z1)))] : va_W)) q_8.symm) q_9.symm)
    rw [hQ9]
    exact x_aret hx hb hr (Or.inl ⟨_, rfl⟩) hlocks hP hD hS (S := Nat × Nat × (Int → Int)) (adr := (fun (u : Nat × Nat × (Int → Int)) => aB)) dJ5_append_cf1ce_44 ⟨aV_o_2, cp_o_3, (up bf_o_4 ct 32)⟩ rfl (show ((16 ≤ cp_o_3 ∧ cp_o_3 ≤ 100) ∧ ct + 1 ≤ (cp_o_3 : Int)) ∧ (∀ j : Int, 0 ≤ j → j < ct + 1 → (up bf_o_4 ct 32) j = (up bf ct 32) j) ∧ bnd (up bf_o_4 ct 32) 0 127 by
        first
        | (
           refine ⟨⟨hE.1.1, by omega⟩, fun j h1 h2 => ?_, bnd_up hE.2.2 (by omega) (by omega)⟩
           by_cases q : j = ct
           · rw [q]
             simp only [up, ↓reduceIte]
             try omega
           · have q2 := hE.2.1 j h1 (by omega)
             simp only [up, if_neg q]
             try omega)
        | fail "q9") hw_10 (Nat.le_of_ble_eq_true rfl) (Nat.le_of_ble_eq_true rfl)
  rw [hH, hlo, hQ9] at goal_
  exact goal_

set_option maxHeartbeats 4000000 in
set_option maxRecDepth 100000 in
theorem c_J4_appendS1 (l : Launch) (g : xg) (sz : Nat) (aB aV : Nat) (ml ct : Int) (bf : Int → Int) (cp : Nat) (hcp : 16 ≤ cp ∧ cp ≤ 100) (hct : 0 ≤ ct ∧ ct ≤ 45) (hcc : ct ≤ (cp : Int)) (hbf : bnd bf 0 127) : Met l yJ4_append_15ec4 wsJ4_append_15ec4 { frames := 5, cells := 1, slots := 100, locals := 127 } (va_Pc [.ref aB, .ref (gK g 1)] (xB g [(aB, .inr (1, [.ref aV, .int (iI 0), .int (iI ml), .int (iI ct)])), (aV, .inl (gB g, cp, .inl (ar bf)))] sz)) (va_Qr (fun (u : Nat × Nat × (Int → Int)) => ((16 ≤ u.2.1 ∧ u.2.1 ≤ 100) ∧ ct + 1 ≤ (u.2.1 : Int)) ∧ (∀ j : Int, 0 ≤ j → j < ct + 1 → u.2.2 j = (up bf ct 32) j) ∧ bnd u.2.2 0 127) (fun u a t => a = (fun (u : Nat × Nat × (Int → Int)) => aB) u ∧ xE g (va_A [(aB, .inr (1, [.ref aV, .int (iI 0), .int (iI ml), .int (iI ct)])), (aV, .inl (gB g, cp, .inl (ar bf)))] sz) ((fun (u : Nat × Nat × (Int → Int)) => [(aB, .inr (1, [.ref u.1, .int (iI 0), .int (iI ml), .int (iI (ct + 1))])), (u.1, .inl (gB g, u.2.1, .inl (ar u.2.2)))]) u) t) (va_A [(aB, .inr (1, [.ref aV, .int (iI 0), .int (iI ml), .int (iI ct)])), (aV, .inl (gB g, cp, .inl (ar bf)))] sz)) 1 100 (va_A [(aB, .inr (1, [.ref aV, .int (iI 0), .int (iI ml), .int (iI ct)])), (aV, .inl (gB g, cp, .inl (ar bf)))] sz) := by
  refine x_enter (y := yJ4_append_15ec4) (ws := wsJ4_append_15ec4) (g := g) (sz := sz) (av := [.ref aB, .ref (gK g 1)]) (WS := [(aB, .inr (1, [.ref aV, .int (iI 0), .int (iI ml), .int (iI ct)])), (aV, .inl (gB g, cp, .inl (ar bf)))]) (cc := cJ4_append_15ec4) (maxL := 2) (ret := some (.object "java/lang/StringBuilder")) (Qc := (fun A => (va_Qr (fun (u : Nat × Nat × (Int → Int)) => ((16 ≤ u.2.1 ∧ u.2.1 ≤ 100) ∧ ct + 1 ≤ (u.2.1 : Int)) ∧ (∀ j : Int, 0 ≤ j → j < ct + 1 → u.2.2 j = (up bf ct 32) j) ∧ bnd u.2.2 0 127) (fun u a t => a = (fun (u : Nat × Nat × (Int → Int)) => aB) u ∧ xE g A ((fun (u : Nat × Nat × (Int → Int)) => [(aB, .inr (1, [.ref u.1, .int (iI 0), .int (iI ml), .int (iI (ct + 1))])), (u.1, .inl (gB g, u.2.1, .inl (ar u.2.2)))]) u) t) A))) (by decide) rfl (Nat.le_of_ble_eq_true rfl) ?_
  intro p e s m args below meth c A ls hx hb hr hml hown hts hlocks hname hC hP hD hS hA hl
  have hK := hC.1
  have hown : s.vm.findClass RJ4 = some m.cls := hown
  have hl : lv_has ls 2 [(0, .ref aB), (1, .ref (gK g 1))] := hl
  obtain ⟨H, hH⟩ : ∃ z, z = s.heap := ⟨_, rfl⟩
  obtain ⟨locs, hlo⟩ : ∃ z : List Loc, z = [] := ⟨_, rfl⟩
  obtain ⟨Q9, hQ9⟩ : ∃ z, z = MQ below (va_Qr (fun (u : Nat × Nat × (Int → Int)) => ((16 ≤ u.2.1 ∧ u.2.1 ≤ 100) ∧ ct + 1 ≤ (u.2.1 : Int)) ∧ (∀ j : Int, 0 ≤ j → j < ct + 1 → u.2.2 j = (up bf ct 32) j) ∧ bnd u.2.2 0 127) (fun u a t => a = (fun (u : Nat × Nat × (Int → Int)) => aB) u ∧ xE g A ((fun (u : Nat × Nat × (Int → Int)) => [(aB, .inr (1, [.ref u.1, .int (iI 0), .int (iI ml), .int (iI (ct + 1))])), (u.1, .inl (gB g, u.2.1, .inl (ar u.2.2)))]) u) t) A) args s 1 100 A := ⟨_, rfl⟩
  have hP : va_P (gD g) vwCl [(aB, .inr (1, [.ref aV, .int (iI 0), .int (iI ml), .int (iI ct)])), (aV, .inl (gB g, cp, .inl (ar bf)))] H := by rw [hH]; exact hP
  have hS : va_S A s.heap H locs := by rw [hH, hlo]; exact hS
  have goal_ : W p l e { frames := 5, cells := 1, slots := 100, locals := 127 } s m args below meth c H locs 0 0 Q9 (F0 m 0 ls []) := by
    clear hH hlo
    refine lv_aload_n hx hb dJ4_append_15ec4_0 rfl (lv_at hl 0 rfl) ?_
    refine lv_aload_n hx hb dJ4_append_15ec4_1 rfl (lv_at hl 1 rfl) ?_
    refine x_callr (S := Nat × Nat × (Int → Int)) (wc := [(aB, .inr (1, [.ref aV, .int (iI 0), .int (iI ml), .int (iI ct)])), (aV, .inl (gB g, cp, .inl (ar bf)))]) (wr := []) hC hP hD hS hA [0, 1] [] [0, 1] rfl rfl (fun hpre => va_runSU (As := [.ref (gK g 1)]) (rest := []) (hK.1 1 _ rfl).2 ⟨hx, hb, hml, hown, hts⟩ (c_J5_appendS1 l g H.size aB aV ml ct bf cp (by first | (first | assumption | omega | exact bnd_up (by assumption) (by omega) (by omega)) | fail "q8") (by first | (first | assumption | omega | exact bnd_up (by assumption) (by omega) (by omega)) | fail "q8") (by first | (first | assumption | omega | exact bnd_up (by assumption) (by omega) (by omega)) | fail "q8") (by first | (first | assumption | omega | exact bnd_up (by assumption) (by omega) (by omega)) | fail "q8")) (va_cwSU 1 hts gJ4_append_15ec4_J5_append_cf1ce_s29 rfl rfl rfl (by decide +kernel) ⟨Nat.le_of_ble_eq_true rfl, Nat.le_of_ble_eq_true rfl⟩) ⟨xB_blind, va_recv hK hP (ci := 1) (q0 := 0) rfl rfl, hpre _⟩ rfl rfl hl.1 rfl (lv_room (Nat.le_of_ble_eq_true rfl)) dJ4_append_15ec4_2 ⟨Nat.le_of_ble_eq_true rfl, Nat.le_of_ble_eq_true rfl⟩) (fun (u : Nat × Nat × (Int → Int)) => [(aB, .inr (1, [.ref u.1, .int (iI 0), .int (iI ml), .int (iI (ct + 1))])), (u.1, .inl (gB g, u.2.1, .inl (ar u.2.2)))]) rfl rfl (by decide) (fun _ => rfl) rfl (fun u H locs hv_4 hP hD hS => ?_)
    obtain ⟨aV_o_1, cp_o_2, bf_o_3⟩ := u
    have hP : va_P (gD g) vwCl [(aB, .inr (1, [.ref aV_o_1, .int (iI 0), .int (iI ml), .int (iI (ct + 1))])), (aV_o_1, .inl (gB g, cp_o_2, .inl (ar bf_o_3)))] H := hP
    have hD : va_D A [(aB, .inr (1, [.ref aV_o_1, .int (iI 0), .int (iI ml), .int (iI (ct + 1))])), (aV_o_1, .inl (gB g, cp_o_2, .inl (ar bf_o_3)))] := hD
    have pv_4 : ((16 ≤ cp_o_2 ∧ cp_o_2 ≤ 100) ∧ ct + 1 ≤ (cp_o_2 : Int)) ∧ (∀ j : Int, 0 ≤ j → j < ct + 1 → bf_o_3 j = (up bf ct 32) j) ∧ bnd bf_o_3 0 127 := hv_4
    refine W.eq (g2 := F0 m 5 ls [.ref aB]) rfl ?_
    have hA9 := pv_4
    refine lv_pop hx hb dJ4_append_15ec4_5 rfl ?_
    refine lv_aload_n hx hb dJ4_append_15ec4_6 rfl (lv_at hl 0 rfl) ?_
    rw [hQ9]
    exact x_aret hx hb hr (Or.inl ⟨_, rfl⟩) hlocks hP hD hS (S := Nat × Nat × (Int → Int)) (adr := (fun (u : Nat × Nat × (Int → Int)) => aB)) dJ4_append_15ec4_7 ⟨aV_o_1, cp_o_2, bf_o_3⟩ rfl (show ((16 ≤ cp_o_2 ∧ cp_o_2 ≤ 100) ∧ ct + 1 ≤ (cp_o_2 : Int)) ∧ (∀ j : Int, 0 ≤ j → j < ct + 1 → bf_o_3 j = (up bf ct 32) j) ∧ bnd bf_o_3 0 127 by
        first
        | (
           exact hA9)
        | fail "q9") rfl (Nat.le_of_ble_eq_true rfl) (Nat.le_of_ble_eq_true rfl)
  rw [hH, hlo, hQ9] at goal_
  exact goal_

set_option maxHeartbeats 4000000 in
set_option maxRecDepth 100000 in
theorem c_J6_stringSize_0f7a4 (l : Launch) (g : xg) (sz : Nat) (di : Int) (hdi : 0 ≤ di ∧ di ≤ 9) : Met l yJ6_stringSize_0f7a4 wsJ6_stringSize_0f7a4 { frames := 0, cells := 0, slots := 0, locals := 0 } (va_Pc [.int (iI di)] (xB g [] sz)) (va_Qi (fun r u => r = iI ((fun (u : Unit) => 1) u) ∧ (fun (u : Unit) => True) u) (fun u t => xE g (va_A [] sz) ((fun (u : Unit) => []) u) t) (va_A [] sz)) 0 0 (va_A [] sz) := by
  refine x_enter (y := yJ6_stringSize_0f7a4) (ws := wsJ6_stringSize_0f7a4) (g := g) (sz := sz) (av := [.int (iI di)]) (WS := []) (cc := cJ6_stringSize_0f7a4) (maxL := 4) (ret := some .int) (Qc := (fun A => (va_Qi (fun r u => r = iI ((fun (u : Unit) => 1) u) ∧ (fun (u : Unit) => True) u) (fun u t => xE g A ((fun (u : Unit) => []) u) t) A))) (by decide) rfl (Nat.le_of_ble_eq_true rfl) ?_
  intro p e s m args below meth c A ls hx hb hr hml hown hts hlocks hname hC hP hD hS hA hl
  have hK := hC.1
  have hown : s.vm.findClass RJ6 = some m.cls := hown
  have hl : lv_has ls 4 [(0, .int (iI di))] := hl
  obtain ⟨H, hH⟩ : ∃ z, z = s.heap := ⟨_, rfl⟩
  obtain ⟨locs, hlo⟩ : ∃ z : List Loc, z = [] := ⟨_, rfl⟩
  obtain ⟨Q9, hQ9⟩ : ∃ z, z = MQ below (va_Qi (fun r u => r = iI ((fun (u : Unit) => 1) u) ∧ (fun (u : Unit) => True) u) (fun u t => xE g A ((fun (u : Unit) => []) u) t) A) args s 0 0 A := ⟨_, rfl⟩
  have hP : va_P (gD g) vwCl [] H := by rw [hH]; exact hP
  have hS : va_S A s.heap H locs := by rw [hH, hlo]; exact hS
  have goal_ : W p l e { frames := 0, cells := 0, slots := 0, locals := 0 } s m args below meth c H locs 0 0 Q9 (F0 m 0 ls []) := by
    clear hH hlo
    refine x_iconst hx hb dJ6_stringSize_0f7a4_0 ?_
    refine lv_istore_n (lv' := [(1, .int (iI 1)), (0, .int (iI di))]) hx hb dJ6_stringSize_0f7a4_1 rfl hl (by decide) rfl (fun ls hl => ?_)
    refine lv_iload_n hx hb dJ6_stringSize_0f7a4_2 rfl (lv_at hl 1 rfl) ?_
    refine x_if_lt (tgt := 11) hx hb (by omega) dJ6_stringSize_0f7a4_3 (by decide) (fun c_1 => ?_) (fun c_1 => ?_)
    · skip
      exfalso; omega
    · skip
      refine x_iconst hx hb dJ6_stringSize_0f7a4_6 ?_
      refine lv_istore_n (lv' := [(1, .int (iI 0)), (0, .int (iI di))]) hx hb dJ6_stringSize_0f7a4_7 rfl hl (by decide) rfl (fun ls hl => ?_)
      refine lv_iload_n hx hb dJ6_stringSize_0f7a4_8 rfl (lv_at hl 1 rfl) ?_
      refine x_ineg hx hb dJ6_stringSize_0f7a4_9 ?_
      obtain ⟨v_2, ev_2⟩ : ∃ z : Int, z = -di := ⟨_, rfl⟩
      refine x_top ev_2.symm ?_
      refine lv_istore_n (lv' := [(0, .int (iI v_2)), (1, .int (iI 0))]) hx hb dJ6_stringSize_0f7a4_10 rfl hl (by decide) rfl (fun ls hl => ?_)
      refine x_bipush hx hb dJ6_stringSize_0f7a4_11 (by decide) ?_
      refine lv_istore_n (lv' := [(2, .int (iI (-10))), (0, .int (iI v_2)), (1, .int (iI 0))]) hx hb dJ6_stringSize_0f7a4_13 rfl hl (by decide) rfl (fun ls hl => ?_)
      refine x_iconst hx hb dJ6_stringSize_0f7a4_14 ?_
      refine lv_istore_n (lv' := [(3, .int (iI 1)), (2, .int (iI (-10))), (0, .int (iI v_2)), (1, .int (iI 0))]) hx hb dJ6_stringSize_0f7a4_15 rfl hl (by decide) rfl (fun ls hl => ?_)
      refine lv_iload_n hx hb dJ6_stringSize_0f7a4_16 rfl (lv_at hl 0 rfl) ?_
      refine x_bipush hx hb dJ6_stringSize_0f7a4_17 (by decide) ?_
      refine x_cmp_ge (tgt := 42) hx hb (by omega) (by omega) dJ6_stringSize_0f7a4_19 (by decide) (fun c_3 => ?_) (fun c_3 => ?_)
      · skip
        exact absurd c_3 (by decide)
      · skip
        refine lv_iload_n hx hb dJ6_stringSize_0f7a4_22 rfl (lv_at hl 2 rfl) ?_
        refine lv_iload_n hx hb dJ6_stringSize_0f7a4_23 rfl (lv_at hl 1 rfl) ?_
        refine x_cmp_le (tgt := 31) hx hb (by omega) (by omega) dJ6_stringSize_0f7a4_24 (by decide) (fun c_4 => ?_) (fun c_4 => ?_)
        · skip
          exfalso; omega
        · skip
          refine lv_iload_n hx hb dJ6_stringSize_0f7a4_27 rfl (lv_at hl 0 rfl) ?_
          refine lv_iload_n hx hb dJ6_stringSize_0f7a4_28 rfl (lv_at hl 3 rfl) ?_
          refine x_iadd hx hb dJ6_stringSize_0f7a4_29 ?_
          rw [hQ9]
          exact x_iret hx hb hr hlocks hP hD hS (S := Unit) rfl dJ6_stringSize_0f7a4_30 () (by
              first
              | (
                 first | rfl | omega | (subst_vars; first | rfl | omega))
              | fail "q9") trivial rfl (Nat.le_of_ble_eq_true rfl) (Nat.le_of_ble_eq_true rfl)
  rw [hH, hlo, hQ9] at goal_
  exact goal_

set_option maxHeartbeats 4000000 in
set_option maxRecDepth 100000 in
theorem c_J6_getChars_ba4f3 (l : Launch) (g : xg) (sz : Nat) (aV : Nat) (di ix : Int) (bf : Int → Int) (cp : Nat) (hdi : 0 ≤ di ∧ di ≤ 9) (hcp : 16 ≤ cp ∧ cp ≤ 100) (hix : 1 ≤ ix ∧ ix ≤ (cp : Int)) : Met l yJ6_getChars_ba4f3 wsJ6_getChars_ba4f3 { frames := 0, cells := 0, slots := 0, locals := 0 } (va_Pc [.int (iI di), .int (iI ix), .ref aV] (xB g [(aV, .inl (gB g, cp, .inl (ar bf)))] sz)) (va_Qi (fun r u => r = iI ((fun (u : Unit) => ix - 1) u) ∧ (fun (u : Unit) => True) u) (fun u t => xE g (va_A [(aV, .inl (gB g, cp, .inl (ar bf)))] sz) ((fun (u : Unit) => [(aV, .inl (gB g, cp, .inl (ar (up bf (ix - 1) (48 + di)))))]) u) t) (va_A [(aV, .inl (gB g, cp, .inl (ar bf)))] sz)) 0 0 (va_A [(aV, .inl (gB g, cp, .inl (ar bf)))] sz) := by
  refine x_enter (y := yJ6_getChars_ba4f3) (ws := wsJ6_getChars_ba4f3) (g := g) (sz := sz) (av := [.int (iI di), .int (iI ix), .ref aV]) (WS := [(aV, .inl (gB g, cp, .inl (ar bf)))]) (cc := cJ6_getChars_ba4f3) (maxL := 7) (ret := some .int) (Qc := (fun A => (va_Qi (fun r u => r = iI ((fun (u : Unit) => ix - 1) u) ∧ (fun (u : Unit) => True) u) (fun u t => xE g A ((fun (u : Unit) => [(aV, .inl (gB g, cp, .inl (ar (up bf (ix - 1) (48 + di)))))]) u) t) A))) (by decide) rfl (Nat.le_of_ble_eq_true rfl) ?_
  intro p e s m args below meth c A ls hx hb hr hml hown hts hlocks hname hC hP hD hS hA hl
  have hK := hC.1
  have hown : s.vm.findClass RJ6 = some m.cls := hown
  have hl : lv_has ls 7 [(0, .int (iI di)), (1, .int (iI ix)), (2, .ref aV)] := hl
  obtain ⟨H, hH⟩ : ∃ z, z = s.heap := ⟨_, rfl⟩
  obtain ⟨locs, hlo⟩ : ∃ z : List Loc, z = [] := ⟨_, rfl⟩
  obtain ⟨Q9, hQ9⟩ : ∃ z, z = MQ below (va_Qi (fun r u => r = iI ((fun (u : Unit) => ix - 1) u) ∧ (fun (u : Unit) => True) u) (fun u t => xE g A ((fun (u : Unit) => [(aV, .inl (gB g, cp, .inl (ar (up bf (ix - 1) (48 + di)))))]) u) t) A) args s 0 0 A := ⟨_, rfl⟩
  have hP : va_P (gD g) vwCl [(aV, .inl (gB g, cp, .inl (ar bf)))] H := by rw [hH]; exact hP
  have hS : va_S A s.heap H locs := by rw [hH, hlo]; exact hS
  have goal_ : W p l e { frames := 0, cells := 0, slots := 0, locals := 0 } s m args below meth c H locs 0 0 Q9 (F0 m 0 ls []) := by
    clear hH hlo
    refine lv_iload_n hx hb dJ6_getChars_ba4f3_0 rfl (lv_at hl 1 rfl) ?_
    refine lv_istore (lv' := [(5, .int (iI ix)), (0, .int (iI di)), (1, .int (iI ix)), (2, .ref aV)]) hx hb dJ6_getChars_ba4f3_1 hl (by decide) rfl (fun ls hl => ?_)
    refine lv_iload_n hx hb dJ6_getChars_ba4f3_3 rfl (lv_at hl 1 rfl) ?_
    refine x_if_ge (tgt := 11) hx hb (by omega) dJ6_getChars_ba4f3_4 (by decide) (fun c_1 => ?_) (fun c_1 => ?_)
    · skip
      refine x_iconst hx hb dJ6_getChars_ba4f3_11 ?_
      refine lv_istore (lv' := [(6, .int (iI 0)), (5, .int (iI ix)), (0, .int (iI di)), (1, .int (iI ix)), (2, .ref aV)]) hx hb dJ6_getChars_ba4f3_12 hl (by decide) rfl (fun ls hl => ?_)
      refine lv_iload hx hb dJ6_getChars_ba4f3_14 (lv_at hl 0 rfl) ?_
      refine x_if_ne (tgt := 22) hx hb (by omega) dJ6_getChars_ba4f3_16 (by decide) (fun c_2 => ?_) (fun c_2 => ?_)
      · skip
        exact absurd c_2 (by decide)
      · skip
        refine lv_iload_n hx hb dJ6_getChars_ba4f3_19 rfl (lv_at hl 2 rfl) ?_
        refine x_ineg hx hb dJ6_getChars_ba4f3_20 ?_
        obtain ⟨v_3, ev_3⟩ : ∃ z : Int, z = -di := ⟨_, rfl⟩
        refine x_top ev_3.symm ?_
        refine lv_istore_n (lv' := [(0, .int (iI v_3)), (6, .int (iI 0)), (5, .int (iI ix)), (1, .int (iI ix)), (2, .ref aV)]) hx hb dJ6_getChars_ba4f3_21 rfl hl (by decide) rfl (fun ls hl => ?_)
        refine lv_iload_n hx hb dJ6_getChars_ba4f3_22 rfl (lv_at hl 0 rfl) ?_
        refine x_bipush hx hb dJ6_getChars_ba4f3_23 (by decide) ?_
        refine x_cmp_gt (tgt := 72) hx hb (by omega) (by omega) dJ6_getChars_ba4f3_25 (by decide) (fun c_4 => ?_) (fun c_4 => ?_)
        · skip
          refine lv_aload_n hx hb dJ6_getChars_ba4f3_72 rfl (lv_at hl 4 rfl) ?_
          refine x_iinc (k := 2) (lv' := [(5, .int (iI (ix + (-1)))), (0, .int (iI v_3)), (6, .int (iI 0)), (1, .int (iI ix)), (2, .ref aV)]) hx hb dJ6_getChars_ba4f3_73 hl rfl (by decide) rfl (fun ls hl => ?_)
          refine lv_iload hx hb dJ6_getChars_ba4f3_76 (lv_at hl 0 rfl) ?_
          refine va_gets hx hb hC.d.2.1.1 hS hown (hts (.fieldLink RJ6 83 "java/lang/Integer" "DigitOnes" "[B") (List.mem_of_getElem? (i := 1) rfl)) (fun _ h9 => h9) dJ6_getChars_ba4f3_78 ?_
          refine W.eq (g2 := F0 m 81 ls [.ref (gO g), .int (iI (ix + (-1))), .ref aV]) rfl ?_
          refine lv_iload_n hx hb dJ6_getChars_ba4f3_81 rfl (lv_at hl 1 rfl) ?_
          refine x_ineg hx hb dJ6_getChars_ba4f3_82 ?_
          refine x_digit hx hb hC hS (by omega) dJ6_getChars_ba4f3_83 ?_
          obtain ⟨v_6, ev_6⟩ : ∃ z : Int, z = 48 + (-v_3) := ⟨_, rfl⟩
          refine x_top ev_6.symm ?_
          refine x_bast hx hb hK hP hD hS 0 rfl (by omega) (by omega) (by omega) (by omega) dJ6_getChars_ba4f3_84 (fun H locs hP hD hS => ?_)
          have hP : va_P (gD g) vwCl [(aV, .inl (gB g, cp, .inl (ar (up bf (ix + (-1)) v_6))))] H := hP
          have hD : va_D A [(aV, .inl (gB g, cp, .inl (ar (up bf (ix + (-1)) v_6))))] := hD
          refine lv_iload_n hx hb dJ6_getChars_ba4f3_85 rfl (lv_at hl 1 rfl) ?_
          refine x_bipush hx hb dJ6_getChars_ba4f3_86 (by decide) ?_
          refine x_cmp_ge (tgt := 104) hx hb (by omega) (by omega) dJ6_getChars_ba4f3_88 (by decide) (fun c_7 => ?_) (fun c_7 => ?_)
          · skip
            refine lv_iload hx hb dJ6_getChars_ba4f3_104 (lv_at hl 2 rfl) ?_
            refine x_if_eq (tgt := 118) hx hb (by omega) dJ6_getChars_ba4f3_106 (by decide) (fun c_8 => ?_) (fun c_8 => ?_)
            · skip
              refine lv_iload hx hb dJ6_getChars_ba4f3_118 (lv_at hl 0 rfl) ?_
              have q_9 : (up bf (ix - 1) (48 + di)) = (up bf (ix + (-1)) v_6) := by
                first
                | (
                   first | rfl | (congr 1 <;> omega))
                | fail "q9"
              have hw_10 := (congrArg (fun (z0 : Int → Int) => ([(aV, .inl (gB g, cp, .inl (ar z0)))] : va_W)) q_9.symm)
              rw [hQ9]
              exact x_iret hx hb hr hlocks hP hD hS (S := Unit) rfl dJ6_getChars_ba4f3_120 () (by
                  first
                  | (
                     first | rfl | omega | (subst_vars; first | rfl | omega))
                  | fail "q9") trivial hw_10 (Nat.le_of_ble_eq_true rfl) (Nat.le_of_ble_eq_true rfl)
            · skip
              exact absurd c_8 (by decide)
          · skip
            exfalso; omega
        · skip
          exfalso; omega
    · skip
      exfalso; omega
  rw [hH, hlo, hQ9] at goal_
  exact goal_

set_option maxHeartbeats 4000000 in
set_option maxRecDepth 100000 in
theorem c_J1_canEncode_fc78d (l : Launch) (g : xg) (sz : Nat) (ch : Int) (hch : 0 ≤ ch ∧ ch ≤ 127) : Met l yJ1_canEncode_fc78d wsJ1_canEncode_fc78d { frames := 0, cells := 0, slots := 0, locals := 0 } (va_Pc [.int (iI ch)] (xB g [] sz)) (va_Qi (fun r u => r = iI ((fun (u : Unit) => bI (True)) u) ∧ (fun (u : Unit) => True) u) (fun u t => xE g (va_A [] sz) ((fun (u : Unit) => []) u) t) (va_A [] sz)) 0 0 (va_A [] sz) := by
  refine x_enter (y := yJ1_canEncode_fc78d) (ws := wsJ1_canEncode_fc78d) (g := g) (sz := sz) (av := [.int (iI ch)]) (WS := []) (cc := cJ1_canEncode_fc78d) (maxL := 1) (ret := some .boolean) (Qc := (fun A => (va_Qi (fun r u => r = iI ((fun (u : Unit) => bI (True)) u) ∧ (fun (u : Unit) => True) u) (fun u t => xE g A ((fun (u : Unit) => []) u) t) A))) (by decide) rfl (Nat.le_of_ble_eq_true rfl) ?_
  intro p e s m args below meth c A ls hx hb hr hml hown hts hlocks hname hC hP hD hS hA hl
  have hK := hC.1
  have hown : s.vm.findClass RJ1 = some m.cls := hown
  have hl : lv_has ls 1 [(0, .int (iI ch))] := hl
  obtain ⟨H, hH⟩ : ∃ z, z = s.heap := ⟨_, rfl⟩
  obtain ⟨locs, hlo⟩ : ∃ z : List Loc, z = [] := ⟨_, rfl⟩
  obtain ⟨Q9, hQ9⟩ : ∃ z, z = MQ below (va_Qi (fun r u => r = iI ((fun (u : Unit) => bI (True)) u) ∧ (fun (u : Unit) => True) u) (fun u t => xE g A ((fun (u : Unit) => []) u) t) A) args s 0 0 A := ⟨_, rfl⟩
  have hP : va_P (gD g) vwCl [] H := by rw [hH]; exact hP
  have hS : va_S A s.heap H locs := by rw [hH, hlo]; exact hS
  have goal_ : W p l e { frames := 0, cells := 0, slots := 0, locals := 0 } s m args below meth c H locs 0 0 Q9 (F0 m 0 ls []) := by
    clear hH hlo
    refine lv_iload_n hx hb dJ1_canEncode_fc78d_0 rfl (lv_at hl 0 rfl) ?_
    refine x_sipush hx hb dJ1_canEncode_fc78d_1 (by decide) ?_
    refine x_cmp_gt (tgt := 11) hx hb (by omega) (by omega) dJ1_canEncode_fc78d_4 (by decide) (fun c_1 => ?_) (fun c_1 => ?_)
    · skip
      exfalso; omega
    · skip
      refine x_iconst hx hb dJ1_canEncode_fc78d_7 ?_
      refine lv_goto (tgt := 12) hx hb dJ1_canEncode_fc78d_8 (by decide) ?_
      rw [hQ9]
      exact x_iret hx hb hr hlocks hP hD hS (S := Unit) (by decide) dJ1_canEncode_fc78d_12 () (by
          first
          | (
             exact (bI_t True.intro).symm)
          | fail "q9") trivial rfl (Nat.le_of_ble_eq_true rfl) (Nat.le_of_ble_eq_true rfl)
  rw [hH, hlo, hQ9] at goal_
  exact goal_

set_option maxHeartbeats 4000000 in
set_option maxRecDepth 100000 in
theorem c_J5_appendI (l : Launch) (g : xg) (sz : Nat) (aB aV : Nat) (ml ct di : Int) (bf : Int → Int) (cp : Nat) (hcp : 16 ≤ cp ∧ cp ≤ 100) (hct : 0 ≤ ct ∧ ct ≤ 45) (hcc : ct ≤ (cp : Int)) (hdi : 0 ≤ di ∧ di ≤ 9) (hbf : bnd bf 0 127) : Met l yJ5_append_c97b9 wsJ5_append_c97b9 { frames := 4, cells := 1, slots := 100, locals := 104 } (va_Pc [.ref aB, .int (iI di)] (xB g [(aB, .inr (1, [.ref aV, .int (iI 0), .int (iI ml), .int (iI ct)])), (aV, .inl (gB g, cp, .inl (ar bf)))] sz)) (va_Qr (fun (u : Nat × Nat × (Int → Int)) => ((16 ≤ u.2.1 ∧ u.2.1 ≤ 100) ∧ ct + 1 ≤ (u.2.1 : Int)) ∧ (∀ j : Int, 0 ≤ j → j < ct + 1 → u.2.2 j = (up bf ct (48 + di)) j) ∧ bnd u.2.2 0 127) (fun u a t => a = (fun (u : Nat × Nat × (Int → Int)) => aB) u ∧ xE g (va_A [(aB, .inr (1, [.ref aV, .int (iI 0), .int (iI ml), .int (iI ct)])), (aV, .inl (gB g, cp, .inl (ar bf)))] sz) ((fun (u : Nat × Nat × (Int → Int)) => [(aB, .inr (1, [.ref u.1, .int (iI 0), .int (iI ml), .int (iI (ct + 1))])), (u.1, .inl (gB g, u.2.1, .inl (ar u.2.2)))]) u) t) (va_A [(aB, .inr (1, [.ref aV, .int (iI 0), .int (iI ml), .int (iI ct)])), (aV, .inl (gB g, cp, .inl (ar bf)))] sz)) 1 100 (va_A [(aB, .inr (1, [.ref aV, .int (iI 0), .int (iI ml), .int (iI ct)])), (aV, .inl (gB g, cp, .inl (ar bf)))] sz) := by
  refine x_enter (y := yJ5_append_c97b9) (ws := wsJ5_append_c97b9) (g := g) (sz := sz) (av := [.ref aB, .int (iI di)]) (WS := [(aB, .inr (1, [.ref aV, .int (iI 0), .int (iI ml), .int (iI ct)])), (aV, .inl (gB g, cp, .inl (ar bf)))]) (cc := cJ5_append_c97b9) (maxL := 4) (ret := some (.object "java/lang/AbstractStringBuilder")) (Qc := (fun A => (va_Qr (fun (u : Nat × Nat × (Int → Int)) => ((16 ≤ u.2.1 ∧ u.2.1 ≤ 100) ∧ ct + 1 ≤ (u.2.1 : Int)) ∧ (∀ j : Int, 0 ≤ j → j < ct + 1 → u.2.2 j = (up bf ct (48 + di)) j) ∧ bnd u.2.2 0 127) (fun u a t => a = (fun (u : Nat × Nat × (Int → Int)) => aB) u ∧ xE g A ((fun (u : Nat × Nat × (Int → Int)) => [(aB, .inr (1, [.ref u.1, .int (iI 0), .int (iI ml), .int (iI (ct + 1))])), (u.1, .inl (gB g, u.2.1, .inl (ar u.2.2)))]) u) t) A))) (by decide) rfl (Nat.le_of_ble_eq_true rfl) ?_
  intro p e s m args below meth c A ls hx hb hr hml hown hts hlocks hname hC hP hD hS hA hl
  have hK := hC.1
  have hown : s.vm.findClass RJ5 = some m.cls := hown
  have hinJ4 : ∀ w ∈ u_ws RJ4 TJ4 4, w ∈ wsJ5_append_c97b9 := by decide +kernel
  have hl : lv_has ls 4 [(0, .ref aB), (1, .int (iI di))] := hl
  obtain ⟨H, hH⟩ : ∃ z, z = s.heap := ⟨_, rfl⟩
  obtain ⟨locs, hlo⟩ : ∃ z : List Loc, z = [] := ⟨_, rfl⟩
  obtain ⟨Q9, hQ9⟩ : ∃ z, z = MQ below (va_Qr (fun (u : Nat × Nat × (Int → Int)) => ((16 ≤ u.2.1 ∧ u.2.1 ≤ 100) ∧ ct + 1 ≤ (u.2.1 : Int)) ∧ (∀ j : Int, 0 ≤ j → j < ct + 1 → u.2.2 j = (up bf ct (48 + di)) j) ∧ bnd u.2.2 0 127) (fun u a t => a = (fun (u : Nat × Nat × (Int → Int)) => aB) u ∧ xE g A ((fun (u : Nat × Nat × (Int → Int)) => [(aB, .inr (1, [.ref u.1, .int (iI 0), .int (iI ml), .int (iI (ct + 1))])), (u.1, .inl (gB g, u.2.1, .inl (ar u.2.2)))]) u) t) A) args s 1 100 A := ⟨_, rfl⟩
  have hP : va_P (gD g) vwCl [(aB, .inr (1, [.ref aV, .int (iI 0), .int (iI ml), .int (iI ct)])), (aV, .inl (gB g, cp, .inl (ar bf)))] H := by rw [hH]; exact hP
  have hS : va_S A s.heap H locs := by rw [hH, hlo]; exact hS
  have goal_ : W p l e { frames := 4, cells := 1, slots := 100, locals := 104 } s m args below meth c H locs 0 0 Q9 (F0 m 0 ls []) := by
    clear hH hlo
    refine lv_aload_n hx hb dJ5_append_c97b9_0 rfl (lv_at hl 0 rfl) ?_
    refine va_get (D := gD g) (ci := 1) (v := .int (iI ct)) (C := RJ4) (T := TJ4) (N := 4) hx hb hts hinJ4 hown hK hP 0 rfl rfl 3 (by decide) (hts (.fieldLink RJ5 79 "java/lang/AbstractStringBuilder" "count" "I") (List.mem_of_getElem? (i := 1) rfl)) (fun _ h9 => h9) rfl dJ5_append_c97b9_1 ?_
    refine lv_istore_n (lv' := [(2, .int (iI ct)), (0, .ref aB), (1, .int (iI di))]) hx hb dJ5_append_c97b9_4 rfl hl (by decide) rfl (fun ls hl => ?_)
    refine lv_iload_n hx hb dJ5_append_c97b9_5 rfl (lv_at hl 0 rfl) ?_
    refine lv_iload_n hx hb dJ5_append_c97b9_6 rfl (lv_at hl 2 rfl) ?_
    refine x_calli (S := Unit) (wc := []) (wr := [(aB, .inr (1, [.ref aV, .int (iI 0), .int (iI ml), .int (iI ct)])), (aV, .inl (gB g, cp, .inl (ar bf)))]) hC hP hD hS hA [] [0, 1] [0, 1] rfl rfl (fun hpre => va_runS (As := [.int (iI di)]) (rest := [.int (iI ct)]) ⟨hx, hb, hml, hown, hts⟩ (c_J6_stringSize_0f7a4 l g H.size di (by first | (first | assumption | omega | exact bnd_up (by assumption) (by omega) (by omega)) | fail "q8")) (va_cwS 1 hts gJ5_append_c97b9_J6_stringSize_0f7a4 rfl rfl rfl (by decide +kernel) ⟨Nat.le_of_ble_eq_true rfl, Nat.le_of_ble_eq_true rfl⟩) ⟨xB_blind, hpre _⟩ rfl rfl hl.1 rfl (lv_room (Nat.le_of_ble_eq_true rfl)) dJ5_append_c97b9_7 ⟨Nat.le_of_ble_eq_true rfl, Nat.le_of_ble_eq_true rfl⟩) (fun (u : Unit) => [(aB, .inr (1, [.ref aV, .int (iI 0), .int (iI ml), .int (iI ct)])), (aV, .inl (gB g, cp, .inl (ar bf)))]) rfl rfl (by decide) (fun _ => rfl) rfl (fun u v_1 H locs hv_1 pv_1 hP hD hS => ?_)
    have hP : va_P (gD g) vwCl [(aB, .inr (1, [.ref aV, .int (iI 0), .int (iI ml), .int (iI ct)])), (aV, .inl (gB g, cp, .inl (ar bf)))] H := hP
    have hD : va_D A [(aB, .inr (1, [.ref aV, .int (iI 0), .int (iI ml), .int (iI ct)])), (aV, .inl (gB g, cp, .inl (ar bf)))] := hD
    have hv_1 : v_1 = 1 := hv_1
    subst hv_1
    refine x_iadd hx hb dJ5_append_c97b9_10 ?_
    obtain ⟨v_2, ev_2⟩ : ∃ z : Int, z = ct + 1 := ⟨_, rfl⟩
    refine x_top ev_2.symm ?_
    refine lv_istore_n (lv' := [(3, .int (iI v_2)), (2, .int (iI ct)), (0, .ref aB), (1, .int (iI di))]) hx hb dJ5_append_c97b9_11 rfl hl (by decide) rfl (fun ls hl => ?_)
    refine lv_aload_n hx hb dJ5_append_c97b9_12 rfl (lv_at hl 2 rfl) ?_
    refine lv_iload_n hx hb dJ5_append_c97b9_13 rfl (lv_at hl 0 rfl) ?_
    refine x_callv (S := Nat × Nat × (Int → Int)) (wc := [(aB, .inr (1, [.ref aV, .int (iI 0), .int (iI ml), .int (iI ct)])), (aV, .inl (gB g, cp, .inl (ar bf)))]) (wr := []) hC hP hD hS hA [0, 1] [] [0, 1] rfl rfl (fun hpre => va_runU (As := [.int (iI v_2)]) (rest := []) ⟨hx, hb, hml, hown, hts⟩ (c_J5_ensureCapacityInternal_d00df l g H.size aB aV ml ct v_2 bf cp (by first | (first | assumption | omega | exact bnd_up (by assumption) (by omega) (by omega)) | fail "q8") (by first | (first | assumption | omega | exact bnd_up (by assumption) (by omega) (by omega)) | fail "q8") (by first | (first | assumption | omega | exact bnd_up (by assumption) (by omega) (by omega)) | fail "q8")) (va_cwU 1 hts gJ5_append_c97b9_J5_ensureCapacityInternal_d00df_u100J4 rfl rfl rfl rfl (by decide +kernel) ⟨Nat.le_of_ble_eq_true rfl, Nat.le_of_ble_eq_true rfl⟩) ⟨xB_blind, va_recv hK hP (ci := 1) (q0 := 0) rfl rfl, hpre _⟩ rfl rfl hl.1 rfl (lv_room (Nat.le_of_ble_eq_true rfl)) dJ5_append_c97b9_14 ⟨Nat.le_of_ble_eq_true rfl, Nat.le_of_ble_eq_true rfl⟩) (fun (u : Nat × Nat × (Int → Int)) => [(aB, .inr (1, [.ref u.1, .int (iI 0), .int (iI ml), .int (iI ct)])), (u.1, .inl (gB g, u.2.1, .inl (ar u.2.2)))]) rfl rfl (by decide) (fun _ => rfl) rfl (fun u H locs hv_6 hP hD hS => ?_)
    obtain ⟨aV_o_3, cp_o_4, bf_o_5⟩ := u
    have hP : va_P (gD g) vwCl [(aB, .inr (1, [.ref aV_o_3, .int (iI 0), .int (iI ml), .int (iI ct)])), (aV_o_3, .inl (gB g, cp_o_4, .inl (ar bf_o_5)))] H := hP
    have hD : va_D A [(aB, .inr (1, [.ref aV_o_3, .int (iI 0), .int (iI ml), .int (iI ct)])), (aV_o_3, .inl (gB g, cp_o_4, .inl (ar bf_o_5)))] := hD
    have pv_6 : ((16 ≤ cp_o_4 ∧ cp_o_4 ≤ 100) ∧ v_2 ≤ (cp_o_4 : Int)) ∧ (∀ j : Int, 0 ≤ j → j < (cp : Int) → bf_o_5 j = bf j) ∧ bnd bf_o_5 0 127 := hv_6
    have hE := pv_6
    refine lv_aload_n hx hb dJ5_append_c97b9_17 rfl (lv_at hl 2 rfl) ?_
    refine x_calli (S := Unit) (wc := [(aB, .inr (1, [.ref aV_o_3, .int (iI 0), .int (iI ml), .int (iI ct)]))]) (wr := [(aV_o_3, .inl (gB g, cp_o_4, .inl (ar bf_o_5)))]) hC hP hD hS hA [0] [1] [1, 0] rfl rfl (fun hpre => va_runU (As := []) (rest := []) ⟨hx, hb, hml, hown, hts⟩ (c_J5_isLatin1_aae02 l g H.size aB aV_o_3 ml ct) (va_cwU 0 hts gJ5_append_c97b9_J5_isLatin1_aae02_u83J4 rfl rfl rfl rfl (by decide +kernel) ⟨Nat.le_of_ble_eq_true rfl, Nat.le_of_ble_eq_true rfl⟩) ⟨xB_blind, va_recv hK hP (ci := 1) (q0 := 0) rfl rfl, hpre _⟩ rfl rfl hl.1 rfl (lv_room (Nat.le_of_ble_eq_true rfl)) dJ5_append_c97b9_18 ⟨Nat.le_of_ble_eq_true rfl, Nat.le_of_ble_eq_true rfl⟩) (fun (u : Unit) => [(aB, .inr (1, [.ref aV_o_3, .int (iI 0), .int (iI ml), .int (iI ct)])), (aV_o_3, .inl (gB g, cp_o_4, .inl (ar bf_o_5)))]) rfl rfl (by decide) (fun _ => rfl) rfl (fun u v_7 H locs hv_7 pv_7 hP hD hS => ?_)
    have hP : va_P (gD g) vwCl [(aB, .inr (1, [.ref aV_o_3, .int (iI 0), .int (iI ml), .int (iI ct)])), (aV_o_3, .inl (gB g, cp_o_4, .inl (ar bf_o_5)))] H := hP
    have hD : va_D A [(aB, .inr (1, [.ref aV_o_3, .int (iI 0), .int (iI ml), .int (iI ct)])), (aV_o_3, .inl (gB g, cp_o_4, .inl (ar bf_o_5)))] := hD
    have hv_7 : v_7 = bI (True) := hv_7
    refine x_top hv_7 ?_
    refine x_ifb_eq (tgt := 37) (P := True) hx hb dJ5_append_c97b9_21 (by decide) (fun c_8 => ?_) (fun c_8 => ?_)
    · skip
      exact absurd True.intro c_8
    · skip
      refine lv_iload_n hx hb dJ5_append_c97b9_24 rfl (lv_at hl 3 rfl) ?_
      refine lv_iload_n hx hb dJ5_append_c97b9_25 rfl (lv_at hl 0 rfl) ?_
      refine lv_aload_n hx hb dJ5_append_c97b9_26 rfl (lv_at hl 2 rfl) ?_
      refine va_get (D := gD g) (ci := 1) (v := .ref aV_o_3) (C := RJ4) (T := TJ4) (N := 4) hx hb hts hinJ4 hown hK hP 0 rfl rfl 0 (by decide) (hts (.fieldLink RJ5 15 "java/lang/AbstractStringBuilder" "value" "[B") (List.mem_of_getElem? (i := 2) rfl)) (fun _ h9 => h9) rfl dJ5_append_c97b9_27 ?_
      refine x_calli (S := Unit) (wc := [(aV_o_3, .inl (gB g, cp_o_4, .inl (ar bf_o_5)))]) (wr := [(aB, .inr (1, [.ref aV_o_3, .int (iI 0), .int (iI ml), .int (iI ct)]))]) hC hP hD hS hA [1] [0] [0, 1] rfl rfl (fun hpre => va_runS (As := [.int (iI di), .int (iI v_2), .ref aV_o_3]) (rest := []) ⟨hx, hb, hml, hown, hts⟩ (c_J6_getChars_ba4f3 l g H.size aV_o_3 di v_2 bf_o_5 cp_o_4 (by first | (first | assumption | omega | exact bnd_up (by assumption) (by omega) (by omega)) | fail "q8") (by first | (first | assumption | omega | exact bnd_up (by assumption) (by omega) (by omega)) | fail "q8") (by first | (first | assumption | omega | exact bnd_up (by assumption) (by omega) (by omega)) | fail "q8")) (va_cwS 3 hts gJ5_append_c97b9_J6_getChars_ba4f3 rfl rfl rfl (by decide +kernel) ⟨Nat.le_of_ble_eq_true rfl, Nat.le_of_ble_eq_true rfl⟩) ⟨xB_blind, hpre _⟩ rfl rfl hl.1 rfl (lv_room (Nat.le_of_ble_eq_true rfl)) dJ5_append_c97b9_30 ⟨Nat.le_of_ble_eq_true rfl, Nat.le_of_ble_eq_true rfl⟩) (fun (u : Unit) => [(aB, .inr (1, [.ref aV_o_3, .int (iI 0), .int (iI ml), .int (iI ct)])), (aV_o_3, .inl (gB g, cp_o_4, .inl (ar (up bf_o_5 (v_2 - 1) (48 + di)))))]) rfl rfl (by decide) (fun _ => rfl) rfl (fun u v_9 H locs hv_9 pv_9 hP hD hS => ?_)
      have hP : va_P (gD g) vwCl [(aB, .inr (1, [.ref aV_o_3, .int (iI 0), .int (iI ml), .int (iI ct)])), (aV_o_3, .inl (gB g, cp_o_4, .inl (ar (up bf_o_5 (v_2 - 1) (48 + di)))))] H := hP
      have hD : va_D A [(aB, .inr (1, [.ref aV_o_3, .int (iI 0), .int (iI ml), .int (iI ct)])), (aV_o_3, .inl (gB g, cp_o_4, .inl (ar (up bf_o_5 (v_2 - 1) (48 + di)))))] := hD
      have hv_9 : v_9 = v_2 - 1 := hv_9
      refine lv_pop hx hb dJ5_append_c97b9_33 rfl ?_
      refine lv_goto (tgt := 48) hx hb dJ5_append_c97b9_34 (by decide) ?_
      refine lv_aload_n hx hb dJ5_append_c97b9_48 rfl (lv_at hl 2 rfl) ?_
      refine lv_iload_n hx hb dJ5_append_c97b9_49 rfl (lv_at hl 0 rfl) ?_
      refine va_put (D := gD g) (ci := 1) (v := .int (iI v_2)) (ty := tyJ4 3) (C := RJ4) (T := TJ4) (N := 4) hx hb hts hinJ4 tyJ4 tyJ4_ok nmJ4 hown hK hP hD hS 0 rfl rfl 3 (by decide) (hts (.fieldLink RJ5 79 "java/lang/AbstractStringBuilder" "count" "I") (List.mem_of_getElem? (i := 1) rfl)) (fun _ h9 => h9) rfl (tyJ4_ok 3 (by decide)) rfl rfl (Nat.le_of_ble_eq_true rfl) dJ5_append_c97b9_50 (fun H locs hP hD hS => ?_)
      have hP : va_P (gD g) vwCl [(aB, .inr (1, [.ref aV_o_3, .int (iI 0), .int (iI ml), .int (iI v_2)])), (aV_o_3, .inl (gB g, cp_o_4, .inl (ar (up bf_o_5 (v_2 - 1) (48 + di)))))] H := hP
      have hD : va_D A [(aB, .inr (1, [.ref aV_o_3, .int (iI 0), .int (iI ml), .int (iI v_2)])), (aV_o_3, .inl (gB g, cp_o_4, .inl (ar (up bf_o_5 (v_2 - 1) (48 + di)))))] := hD
      refine lv_aload_n hx hb dJ5_append_c97b9_53 rfl (lv_at hl 2 rfl) ?_
      have q_10 : (ct + 1) = v_2 := by
        first
        | (
           first | rfl | omega | (subst_vars; first | rfl | omega))
        | fail "q9"
      have q_11 : (up bf_o_5 (v_2 - 1) (48 + di)) = (up bf_o_5 (v_2 - 1) (48 + di)) := by
        first
        | (
           first | rfl | omega | (subst_vars; first | rfl | omega))
        | fail "q9"
      have hw_12 := (congr (congrArg (fun (z0 : Int) (z1 : Int → Int) => ([(aB, .inr (1, [.ref aV_o_3, .int (iI 0), .int (iI ml), .int (iI z0)])), (aV_o_3, .inl (gB g, cp_o_4, .inl (ar z1)))] : va_W)) q_10.symm) q_11.symm)
      rw [hQ9]
      exact x_aret hx hb hr (Or.inl ⟨_, rfl⟩) hlocks hP hD hS (S := Nat × Nat × (Int → Int)) (adr := (fun (u : Nat × Nat × (Int → Int)) => aB)) dJ5_append_c97b9_54 ⟨aV_o_3, cp_o_4, (up bf_o_5 (v_2 - 1) (48 + di))⟩ rfl (show ((16 ≤ cp_o_4 ∧ cp_o_4 ≤ 100) ∧ ct + 1 ≤ (cp_o_4 : Int)) ∧ (∀ j : Int, 0 ≤ j → j < ct + 1 → (up bf_o_5 (v_2 - 1) (48 + di)) j = (up bf ct (48 + di)) j) ∧ bnd (up bf_o_5 (v_2 - 1) (48 + di)) 0 127 by
          first
          | (
             refine ⟨⟨hE.1.1, by omega⟩, fun j h1 h2 => ?_, bnd_up hE.2.2 (by omega) (by omega)⟩
             by_cases q : j = ct
             · rw [q]
               simp only [up, ↓reduceIte]
               try omega
             · have q2 := hE.2.1 j h1 (by omega)
               simp only [up, if_neg q]
               try omega)
          | fail "q9") hw_12 (Nat.le_of_ble_eq_true rfl) (Nat.le_of_ble_eq_true rfl)
  rw [hH, hlo, hQ9] at goal_
  exact goal_

set_option maxHeartbeats 4000000 in
set_option maxRecDepth 100000 in
theorem c_J4_appendI (l : Launch) (g : xg) (sz : Nat) (aB aV : Nat) (ml ct di : Int) (bf : Int → Int) (cp : Nat) (hcp : 16 ≤ cp ∧ cp ≤ 100) (hct : 0 ≤ ct ∧ ct ≤ 45) (hcc : ct ≤ (cp : Int)) (hdi : 0 ≤ di ∧ di ≤ 9) (hbf : bnd bf 0 127) : Met l yJ4_append_bf812 wsJ4_append_bf812 { frames := 5, cells := 1, slots := 100, locals := 127 } (va_Pc [.ref aB, .int (iI di)] (xB g [(aB, .inr (1, [.ref aV, .int (iI 0), .int (iI ml), .int (iI ct)])), (aV, .inl (gB g, cp, .inl (ar bf)))] sz)) (va_Qr (fun (u : Nat × Nat × (Int → Int)) => ((16 ≤ u.2.1 ∧ u.2.1 ≤ 100) ∧ ct + 1 ≤ (u.2.1 : Int)) ∧ (∀ j : Int, 0 ≤ j → j < ct + 1 → u.2.2 j = (up bf ct (48 + di)) j) ∧ bnd u.2.2 0 127) (fun u a t => a = (fun (u : Nat × Nat × (Int → Int)) => aB) u ∧ xE g (va_A [(aB, .inr (1, [.ref aV, .int (iI 0), .int (iI ml), .int (iI ct)])), (aV, .inl (gB g, cp, .inl (ar bf)))] sz) ((fun (u : Nat × Nat × (Int → Int)) => [(aB, .inr (1, [.ref u.1, .int (iI 0), .int (iI ml), .int (iI (ct + 1))])), (u.1, .inl (gB g, u.2.1, .inl (ar u.2.2)))]) u) t) (va_A [(aB, .inr (1, [.ref aV, .int (iI 0), .int (iI ml), .int (iI ct)])), (aV, .inl (gB g, cp, .inl (ar bf)))] sz)) 1 100 (va_A [(aB, .inr (1, [.ref aV, .int (iI 0), .int (iI ml), .int (iI ct)])), (aV, .inl (gB g, cp, .inl (ar bf)))] sz) := by
  refine x_enter (y := yJ4_append_bf812) (ws := wsJ4_append_bf812) (g := g) (sz := sz) (av := [.ref aB, .int (iI di)]) (WS := [(aB, .inr (1, [.ref aV, .int (iI 0), .int (iI ml), .int (iI ct)])), (aV, .inl (gB g, cp, .inl (ar bf)))]) (cc := cJ4_append_bf812) (maxL := 2) (ret := some (.object "java/lang/StringBuilder")) (Qc := (fun A => (va_Qr (fun (u : Nat × Nat × (Int → Int)) => ((16 ≤ u.2.1 ∧ u.2.1 ≤ 100) ∧ ct + 1 ≤ (u.2.1 : Int)) ∧ (∀ j : Int, 0 ≤ j → j < ct + 1 → u.2.2 j = (up bf ct (48 + di)) j) ∧ bnd u.2.2 0 127) (fun u a t => a = (fun (u : Nat × Nat × (Int → Int)) => aB) u ∧ xE g A ((fun (u : Nat × Nat × (Int → Int)) => [(aB, .inr (1, [.ref u.1, .int (iI 0), .int (iI ml), .int (iI (ct + 1))])), (u.1, .inl (gB g, u.2.1, .inl (ar u.2.2)))]) u) t) A))) (by decide) rfl (Nat.le_of_ble_eq_true rfl) ?_
  intro p e s m args below meth c A ls hx hb hr hml hown hts hlocks hname hC hP hD hS hA hl
  have hK := hC.1
  have hown : s.vm.findClass RJ4 = some m.cls := hown
  have hl : lv_has ls 2 [(0, .ref aB), (1, .int (iI di))] := hl
  obtain ⟨H, hH⟩ : ∃ z, z = s.heap := ⟨_, rfl⟩
  obtain ⟨locs, hlo⟩ : ∃ z : List Loc, z = [] := ⟨_, rfl⟩
  obtain ⟨Q9, hQ9⟩ : ∃ z, z = MQ below (va_Qr (fun (u : Nat × Nat × (Int → Int)) => ((16 ≤ u.2.1 ∧ u.2.1 ≤ 100) ∧ ct + 1 ≤ (u.2.1 : Int)) ∧ (∀ j : Int, 0 ≤ j → j < ct + 1 → u.2.2 j = (up bf ct (48 + di)) j) ∧ bnd u.2.2 0 127) (fun u a t => a = (fun (u : Nat × Nat × (Int → Int)) => aB) u ∧ xE g A ((fun (u : Nat × Nat × (Int → Int)) => [(aB, .inr (1, [.ref u.1, .int (iI 0), .int (iI ml), .int (iI (ct + 1))])), (u.1, .inl (gB g, u.2.1, .inl (ar u.2.2)))]) u) t) A) args s 1 100 A := ⟨_, rfl⟩
  have hP : va_P (gD g) vwCl [(aB, .inr (1, [.ref aV, .int (iI 0), .int (iI ml), .int (iI ct)])), (aV, .inl (gB g, cp, .inl (ar bf)))] H := by rw [hH]; exact hP
  have hS : va_S A s.heap H locs := by rw [hH, hlo]; exact hS
  have goal_ : W p l e { frames := 5, cells := 1, slots := 100, locals := 127 } s m args below meth c H locs 0 0 Q9 (F0 m 0 ls []) := by
    clear hH hlo
    refine lv_aload_n hx hb dJ4_append_bf812_0 rfl (lv_at hl 0 rfl) ?_
    refine lv_iload_n hx hb dJ4_append_bf812_1 rfl (lv_at hl 1 rfl) ?_
    refine x_callr (S := Nat × Nat × (Int → Int)) (wc := [(aB, .inr (1, [.ref aV, .int (iI 0), .int (iI ml), .int (iI ct)])), (aV, .inl (gB g, cp, .inl (ar bf)))]) (wr := []) hC hP hD hS hA [0, 1] [] [0, 1] rfl rfl (fun hpre => va_runSU (As := [.int (iI di)]) (rest := []) (hK.1 1 _ rfl).2 ⟨hx, hb, hml, hown, hts⟩ (c_J5_appendI l g H.size aB aV ml ct di bf cp (by first | (first | assumption | omega | exact bnd_up (by assumption) (by omega) (by omega)) | fail "q8") (by first | (first | assumption | omega | exact bnd_up (by assumption) (by omega) (by omega)) | fail "q8") (by first | (first | assumption | omega | exact bnd_up (by assumption) (by omega) (by omega)) | fail "q8") (by first | (first | assumption | omega | exact bnd_up (by assumption) (by omega) (by omega)) | fail "q8") (by first | (first | assumption | omega | exact bnd_up (by assumption) (by omega) (by omega)) | fail "q8")) (va_cwSU 1 hts gJ4_append_bf812_J5_append_c97b9_s53 rfl rfl rfl (by decide +kernel) ⟨Nat.le_of_ble_eq_true rfl, Nat.le_of_ble_eq_true rfl⟩) ⟨xB_blind, va_recv hK hP (ci := 1) (q0 := 0) rfl rfl, hpre _⟩ rfl rfl hl.1 rfl (lv_room (Nat.le_of_ble_eq_true rfl)) dJ4_append_bf812_2 ⟨Nat.le_of_ble_eq_true rfl, Nat.le_of_ble_eq_true rfl⟩) (fun (u : Nat × Nat × (Int → Int)) => [(aB, .inr (1, [.ref u.1, .int (iI 0), .int (iI ml), .int (iI (ct + 1))])), (u.1, .inl (gB g, u.2.1, .inl (ar u.2.2)))]) rfl rfl (by decide) (fun _ => rfl) rfl (fun u H locs hv_4 hP hD hS => ?_)
    obtain ⟨aV_o_1, cp_o_2, bf_o_3⟩ := u
    have hP : va_P (gD g) vwCl [(aB, .inr (1, [.ref aV_o_1, .int (iI 0), .int (iI ml), .int (iI (ct + 1))])), (aV_o_1, .inl (gB g, cp_o_2, .inl (ar bf_o_3)))] H := hP
    have hD : va_D A [(aB, .inr (1, [.ref aV_o_1, .int (iI 0), .int (iI ml), .int (iI (ct + 1))])), (aV_o_1, .inl (gB g, cp_o_2, .inl (ar bf_o_3)))] := hD
    have pv_4 : ((16 ≤ cp_o_2 ∧ cp_o_2 ≤ 100) ∧ ct + 1 ≤ (cp_o_2 : Int)) ∧ (∀ j : Int, 0 ≤ j → j < ct + 1 → bf_o_3 j = (up bf ct (48 + di)) j) ∧ bnd bf_o_3 0 127 := hv_4
    refine W.eq (g2 := F0 m 5 ls [.ref aB]) rfl ?_
    have hA9 := pv_4
    refine lv_pop hx hb dJ4_append_bf812_5 rfl ?_
    refine lv_aload_n hx hb dJ4_append_bf812_6 rfl (lv_at hl 0 rfl) ?_
    rw [hQ9]
    exact x_aret hx hb hr (Or.inl ⟨_, rfl⟩) hlocks hP hD hS (S := Nat × Nat × (Int → Int)) (adr := (fun (u : Nat × Nat × (Int → Int)) => aB)) dJ4_append_bf812_7 ⟨aV_o_1, cp_o_2, bf_o_3⟩ rfl (show ((16 ≤ cp_o_2 ∧ cp_o_2 ≤ 100) ∧ ct + 1 ≤ (cp_o_2 : Int)) ∧ (∀ j : Int, 0 ≤ j → j < ct + 1 → bf_o_3 j = (up bf ct (48 + di)) j) ∧ bnd bf_o_3 0 127 by
        first
        | (
           exact hA9)
        | fail "q9") rfl (Nat.le_of_ble_eq_true rfl) (Nat.le_of_ble_eq_true rfl)
  rw [hH, hlo, hQ9] at goal_
  exact goal_

set_option maxHeartbeats 4000000 in
set_option maxRecDepth 100000 in
theorem c_J5_appendC (l : Launch) (g : xg) (sz : Nat) (aB aV : Nat) (ml ct ch : Int) (bf : Int → Int) (cp : Nat) (hcp : 16 ≤ cp ∧ cp ≤ 100) (hct : 0 ≤ ct ∧ ct ≤ 45) (hcc : ct ≤ (cp : Int)) (hch : 0 ≤ ch ∧ ch ≤ 127) (hbf : bnd bf 0 127) : Met l yJ5_append_3fe6f wsJ5_append_3fe6f { frames := 4, cells := 1, slots := 100, locals := 104 } (va_Pc [.ref aB, .int (iI ch)] (xB g [(aB, .inr (1, [.ref aV, .int (iI 0), .int (iI ml), .int (iI ct)])), (aV, .inl (gB g, cp, .inl (ar bf)))] sz)) (va_Qr (fun (u : Nat × Nat × (Int → Int)) => ((16 ≤ u.2.1 ∧ u.2.1 ≤ 100) ∧ ct + 1 ≤ (u.2.1 : Int)) ∧ (∀ j : Int, 0 ≤ j → j < ct + 1 → u.2.2 j = (up bf ct ch) j) ∧ bnd u.2.2 0 127) (fun u a t => a = (fun (u : Nat × Nat × (Int → Int)) => aB) u ∧ xE g (va_A [(aB, .inr (1, [.ref aV, .int (iI 0), .int (iI ml), .int (iI ct)])), (aV, .inl (gB g, cp, .inl (ar bf)))] sz) ((fun (u : Nat × Nat × (Int → Int)) => [(aB, .inr (1, [.ref u.1, .int (iI 0), .int (iI ml), .int (iI (ct + 1))])), (u.1, .inl (gB g, u.2.1, .inl (ar u.2.2)))]) u) t) (va_A [(aB, .inr (1, [.ref aV, .int (iI 0), .int (iI ml), .int (iI ct)])), (aV, .inl (gB g, cp, .inl (ar bf)))] sz)) 1 100 (va_A [(aB, .inr (1, [.ref aV, .int (iI 0), .int (iI ml), .int (iI ct)])), (aV, .inl (gB g, cp, .inl (ar bf)))] sz) := by
  refine x_enter (y := yJ5_append_3fe6f) (ws := wsJ5_append_3fe6f) (g := g) (sz := sz) (av := [.ref aB, .int (iI ch)]) (WS := [(aB, .inr (1, [.ref aV, .int (iI 0), .int (iI ml), .int (iI ct)])), (aV, .inl (gB g, cp, .inl (ar bf)))]) (cc := cJ5_append_3fe6f) (maxL := 2) (ret := some (.object "java/lang/AbstractStringBuilder")) (Qc := (fun A => (va_Qr (fun (u : Nat × Nat × (Int → Int)) => ((16 ≤ u.2.1 ∧ u.2.1 ≤ 100) ∧ ct + 1 ≤ (u.2.1 : Int)) ∧ (∀ j : Int, 0 ≤ j → j < ct + 1 → u.2.2 j = (up bf ct ch) j) ∧ bnd u.2.2 0 127) (fun u a t => a = (fun (u : Nat × Nat × (Int → Int)) => aB) u ∧ xE g A ((fun (u : Nat × Nat × (Int → Int)) => [(aB, .inr (1, [.ref u.1, .int (iI 0), .int (iI ml), .int (iI (ct + 1))])), (u.1, .inl (gB g, u.2.1, .inl (ar u.2.2)))]) u) t) A))) (by decide) rfl (Nat.le_of_ble_eq_true rfl) ?_
  intro p e s m args below meth c A ls hx hb hr hml hown hts hlocks hname hC hP hD hS hA hl
  have hK := hC.1
  have hown : s.vm.findClass RJ5 = some m.cls := hown
  have hinJ4 : ∀ w ∈ u_ws RJ4 TJ4 4, w ∈ wsJ5_append_3fe6f := by decide +kernel
  have hl : lv_has ls 2 [(0, .ref aB), (1, .int (iI ch))] := hl
  obtain ⟨H, hH⟩ : ∃ z, z = s.heap := ⟨_, rfl⟩
  obtain ⟨locs, hlo⟩ : ∃ z : List Loc, z = [] := ⟨_, rfl⟩
  obtain ⟨Q9, hQ9⟩ : ∃ z, z = MQ below (va_Qr (fun (u : Nat × Nat × (Int → Int)) => ((16 ≤ u.2.1 ∧ u.2.1 ≤ 100) ∧ ct + 1 ≤ (u.2.1 : Int)) ∧ (∀ j : Int, 0 ≤ j → j < ct + 1 → u.2.2 j = (up bf ct ch) j) ∧ bnd u.2.2 0 127) (fun u a t => a = (fun (u : Nat × Nat × (Int → Int)) => aB) u ∧ xE g A ((fun (u : Nat × Nat × (Int → Int)) => [(aB, .inr (1, [.ref u.1, .int (iI 0), .int (iI ml), .int (iI (ct + 1))])), (u.1, .inl (gB g, u.2.1, .inl (ar u.2.2)))]) u) t) A) args s 1 100 A := ⟨_, rfl⟩
  have hP : va_P (gD g) vwCl [(aB, .inr (1, [.ref aV, .int (iI 0), .int (iI ml), .int (iI ct)])), (aV, .inl (gB g, cp, .inl (ar bf)))] H := by rw [hH]; exact hP
  have hS : va_S A s.heap H locs := by rw [hH, hlo]; exact hS
  have goal_ : W p l e { frames := 4, cells := 1, slots := 100, locals := 104 } s m args below meth c H locs 0 0 Q9 (F0 m 0 ls []) := by
    clear hH hlo
    refine lv_aload_n hx hb dJ5_append_3fe6f_0 rfl (lv_at hl 0 rfl) ?_
    refine lv_aload_n hx hb dJ5_append_3fe6f_1 rfl (lv_at hl 0 rfl) ?_
    refine va_get (D := gD g) (ci := 1) (v := .int (iI ct)) (C := RJ4) (T := TJ4) (N := 4) hx hb hts hinJ4 hown hK hP 0 rfl rfl 3 (by decide) (hts (.fieldLink RJ5 79 "java/lang/AbstractStringBuilder" "count" "I") (List.mem_of_getElem? (i := 1) rfl)) (fun _ h9 => h9) rfl dJ5_append_3fe6f_2 ?_
    refine x_iconst hx hb dJ5_append_3fe6f_5 ?_
    refine x_iadd hx hb dJ5_append_3fe6f_6 ?_
    refine x_callv (S := Nat × Nat × (Int → Int)) (wc := [(aB, .inr (1, [.ref aV, .int (iI 0), .int (iI ml), .int (iI ct)])), (aV, .inl (gB g, cp, .inl (ar bf)))]) (wr := []) hC hP hD hS hA [0, 1] [] [0, 1] rfl rfl (fun hpre => va_runU (As := [.int (iI (ct + 1))]) (rest := []) ⟨hx, hb, hml, hown, hts⟩ (c_J5_ensureCapacityInternal_d00df l g H.size aB aV ml ct (ct + 1) bf cp (by first | (first | assumption | omega | exact bnd_up (by assumption) (by omega) (by omega)) | fail "q8") (by first | (first | assumption | omega | exact bnd_up (by assumption) (by omega) (by omega)) | fail "q8") (by first | (first | assumption | omega | exact bnd_up (by assumption) (by omega) (by omega)) | fail "q8")) (va_cwU 1 hts gJ5_append_3fe6f_J5_ensureCapacityInternal_d00df_u100J4 rfl rfl rfl rfl (by decide +kernel) ⟨Nat.le_of_ble_eq_true rfl, Nat.le_of_ble_eq_true rfl⟩) ⟨xB_blind, va_recv hK hP (ci := 1) (q0 := 0) rfl rfl, hpre _⟩ rfl rfl hl.1 rfl (lv_room (Nat.le_of_ble_eq_true rfl)) dJ5_append_3fe6f_7 ⟨Nat.le_of_ble_eq_true rfl, Nat.le_of_ble_eq_true rfl⟩) (fun (u : Nat × Nat × (Int → Int)) => [(aB, .inr (1, [.ref u.1, .int (iI 0), .int (iI ml), .int (iI ct)])), (u.1, .inl (gB g, u.2.1, .inl (ar u.2.2)))]) rfl rfl (by decide) (fun _ => rfl) rfl (fun u H locs hv_4 hP hD hS => ?_)
    obtain ⟨aV_o_1, cp_o_2, bf_o_3⟩ := u
    have hP : va_P (gD g) vwCl [(aB, .inr (1, [.ref aV_o_1, .int (iI 0), .int (iI ml), .int (iI ct)])), (aV_o_1, .inl (gB g, cp_o_2, .inl (ar bf_o_3)))] H := hP
    have hD : va_D A [(aB, .inr (1, [.ref aV_o_1, .int (iI 0), .int (iI ml), .int (iI ct)])), (aV_o_1, .inl (gB g, cp_o_2, .inl (ar bf_o_3)))] := hD
    have pv_4 : ((16 ≤ cp_o_2 ∧ cp_o_2 ≤ 100) ∧ (ct + 1) ≤ (cp_o_2 : Int)) ∧ (∀ j : Int, 0 ≤ j → j < (cp : Int) → bf_o_3 j = bf j) ∧ bnd bf_o_3 0 127 := hv_4
    have hE := pv_4
    refine lv_aload_n hx hb dJ5_append_3fe6f_10 rfl (lv_at hl 0 rfl) ?_
    refine x_calli (S := Unit) (wc := [(aB, .inr (1, [.ref aV_o_1, .int (iI 0), .int (iI ml), .int (iI ct)]))]) (wr := [(aV_o_1, .inl (gB g, cp_o_2, .inl (ar bf_o_3)))]) hC hP hD hS hA [0] [1] [1, 0] rfl rfl (fun hpre => va_runU (As := []) (rest := []) ⟨hx, hb, hml, hown, hts⟩ (c_J5_isLatin1_aae02 l g H.size aB aV_o_1 ml ct) (va_cwU 0 hts gJ5_append_3fe6f_J5_isLatin1_aae02_u83J4 rfl rfl rfl rfl (by decide +kernel) ⟨Nat.le_of_ble_eq_true rfl, Nat.le_of_ble_eq_true rfl⟩) ⟨xB_blind, va_recv hK hP (ci := 1) (q0 := 0) rfl rfl, hpre _⟩ rfl rfl hl.1 rfl (lv_room (Nat.le_of_ble_eq_true rfl)) dJ5_append_3fe6f_11 ⟨Nat.le_of_ble_eq_true rfl, Nat.le_of_ble_eq_true rfl⟩) (fun (u : Unit) => [(aB, .inr (1, [.ref aV_o_1, .int (iI 0), .int (iI ml), .int (iI ct)])), (aV_o_1, .inl (gB g, cp_o_2, .inl (ar bf_o_3)))]) rfl rfl (by decide) (fun _ => rfl) rfl (fun u v_5 H locs hv_5 pv_5 hP hD hS => ?_)
    have hP : va_P (gD g) vwCl [(aB, .inr (1, [.ref aV_o_1, .int (iI 0), .int (iI ml), .int (iI ct)])), (aV_o_1, .inl (gB g, cp_o_2, .inl (ar bf_o_3)))] H := hP
    have hD : va_D A [(aB, .inr (1, [.ref aV_o_1, .int (iI 0), .int (iI ml), .int (iI ct)])), (aV_o_1, .inl (gB g, cp_o_2, .inl (ar bf_o_3)))] := hD
    have hv_5 : v_5 = bI (True) := hv_5
    refine x_top hv_5 ?_
    refine x_ifb_eq (tgt := 45) (P := True) hx hb dJ5_append_3fe6f_14 (by decide) (fun c_6 => ?_) (fun c_6 => ?_)
    · skip
      exact absurd True.intro c_6
    · skip
      refine lv_iload_n hx hb dJ5_append_3fe6f_17 rfl (lv_at hl 1 rfl) ?_
      refine x_calli (S := Unit) (wc := []) (wr := [(aB, .inr (1, [.ref aV_o_1, .int (iI 0), .int (iI ml), .int (iI ct)])), (aV_o_1, .inl (gB g, cp_o_2, .inl (ar bf_o_3)))]) hC hP hD hS hA [] [0, 1] [0, 1] rfl rfl (fun hpre => va_runS (As := [.int (iI ch)]) (rest := []) ⟨hx, hb, hml, hown, hts⟩ (c_J1_canEncode_fc78d l g H.size ch (by first | (first | assumption | omega | exact bnd_up (by assumption) (by omega) (by omega)) | fail "q8")) (va_cwS 1 hts gJ5_append_3fe6f_J1_canEncode_fc78d rfl rfl rfl (by decide +kernel) ⟨Nat.le_of_ble_eq_true rfl, Nat.le_of_ble_eq_true rfl⟩) ⟨xB_blind, hpre _⟩ rfl rfl hl.1 rfl (lv_room (Nat.le_of_ble_eq_true rfl)) dJ5_append_3fe6f_18 ⟨Nat.le_of_ble_eq_true rfl, Nat.le_of_ble_eq_true rfl⟩) (fun (u : Unit) => [(aB, .inr (1, [.ref aV_o_1, .int (iI 0), .int (iI ml), .int (iI ct)])), (aV_o_1, .inl (gB g, cp_o_2, .inl (ar bf_o_3)))]) rfl rfl (by decide) (fun _ => rfl) rfl (fun u v_7 H locs hv_7 pv_7 hP hD hS => ?_)
      have hP : va_P (gD g) vwCl [(aB, .inr (1, [.ref aV_o_1, .int (iI 0), .int (iI ml), .int (iI ct)])), (aV_o_1, .inl (gB g, cp_o_2, .inl (ar bf_o_3)))] H := hP
      have hD : va_D A [(aB, .inr (1, [.ref aV_o_1, .int (iI 0), .int (iI ml), .int (iI ct)])), (aV_o_1, .inl (gB g, cp_o_2, .inl (ar bf_o_3)))] := hD
      have hv_7 : v_7 = bI (True) := hv_7
      refine x_top hv_7 ?_
      refine x_ifb_eq (tgt := 45) (P := True) hx hb dJ5_append_3fe6f_21 (by decide) (fun c_8 => ?_) (fun c_8 => ?_)
      · skip
        exact absurd True.intro c_8
      · skip
        refine lv_aload_n hx hb dJ5_append_3fe6f_24 rfl (lv_at hl 0 rfl) ?_
        refine va_get (D := gD g) (ci := 1) (v := .ref aV_o_1) (C := RJ4) (T := TJ4) (N := 4) hx hb hts hinJ4 hown hK hP 0 rfl rfl 0 (by decide) (hts (.fieldLink RJ5 15 "java/lang/AbstractStringBuilder" "value" "[B") (List.mem_of_getElem? (i := 2) rfl)) (fun _ h9 => h9) rfl dJ5_append_3fe6f_25 ?_
        refine lv_aload_n hx hb dJ5_append_3fe6f_28 rfl (lv_at hl 0 rfl) ?_
        refine lv_dup hx hb dJ5_append_3fe6f_29 rfl ?_
        refine va_get (D := gD g) (ci := 1) (v := .int (iI ct)) (C := RJ4) (T := TJ4) (N := 4) hx hb hts hinJ4 hown hK hP 0 rfl rfl 3 (by decide) (hts (.fieldLink RJ5 79 "java/lang/AbstractStringBuilder" "count" "I") (List.mem_of_getElem? (i := 1) rfl)) (fun _ h9 => h9) rfl dJ5_append_3fe6f_30 ?_
        refine lv_dup_x1 hx hb dJ5_append_3fe6f_33 rfl rfl ?_
        refine x_iconst hx hb dJ5_append_3fe6f_34 ?_
        refine x_iadd hx hb dJ5_append_3fe6f_35 ?_
        obtain ⟨v_9, ev_9⟩ : ∃ z : Int, z = ct + 1 := ⟨_, rfl⟩
        refine x_top ev_9.symm ?_
        refine va_put (D := gD g) (ci := 1) (v := .int (iI v_9)) (ty := tyJ4 3) (C := RJ4) (T := TJ4) (N := 4) hx hb hts hinJ4 tyJ4 tyJ4_ok nmJ4 hown hK hP hD hS 0 rfl rfl 3 (by decide) (hts (.fieldLink RJ5 79 "java/lang/AbstractStringBuilder" "count" "I") (List.mem_of_getElem? (i := 1) rfl)) (fun _ h9 => h9) rfl (tyJ4_ok 3 (by decide)) rfl rfl (Nat.le_of_ble_eq_true rfl) dJ5_append_3fe6f_36 (fun H locs hP hD hS => ?_)
        have hP : va_P (gD g) vwCl [(aB, .inr (1, [.ref aV_o_1, .int (iI 0), .int (iI ml), .int (iI v_9)])), (aV_o_1, .inl (gB g, cp_o_2, .inl (ar bf_o_3)))] H := hP
        have hD : va_D A [(aB, .inr (1, [.ref aV_o_1, .int (iI 0), .int (iI ml), .int (iI v_9)])), (aV_o_1, .inl (gB g, cp_o_2, .inl (ar bf_o_3)))] := hD
        refine lv_iload_n hx hb dJ5_append_3fe6f_39 rfl (lv_at hl 1 rfl) ?_
        refine x_i2b hx hb (by omega) dJ5_append_3fe6f_40 ?_
        refine x_bast hx hb hK hP hD hS 1 rfl (by omega) (by omega) (by omega) (by omega) dJ5_append_3fe6f_41 (fun H locs hP hD hS => ?_)
        have hP : va_P (gD g) vwCl [(aB, .inr (1, [.ref aV_o_1, .int (iI 0), .int (iI ml), .int (iI v_9)])), (aV_o_1, .inl (gB g, cp_o_2, .inl (ar (up bf_o_3 ct ch))))] H := hP
        have hD : va_D A [(aB, .inr (1, [.ref aV_o_1, .int (iI 0), .int (iI ml), .int (iI v_9)])), (aV_o_1, .inl (gB g, cp_o_2, .inl (ar (up bf_o_3 ct ch))))] := hD
        refine lv_goto (tgt := 75) hx hb dJ5_append_3fe6f_42 (by decide) ?_
        refine lv_aload_n hx hb dJ5_append_3fe6f_75 rfl (lv_at hl 0 rfl) ?_
        have q_10 : (ct + 1) = v_9 := by
          first
          | (
             first | rfl | omega | (subst_vars; first | rfl | omega))
          | fail "q9"
        have q_11 : (up bf_o_3 ct ch) = (up bf_o_3 ct ch) := by
          first
          | (
             first | rfl | omega | (subst_vars; first | rfl | omega))
          | fail "q9"
        have hw_12 := (congr (congrArg (fun (z0 : Int) (z1 : Int → Int) => ([(aB, .inr (1, [.ref aV_o_1, .int (iI 0), .int (iI ml), .int (iI z0)])), (aV_o_1, .inl (gB g, cp_o_2, .inl (ar z1)))] : va_W)) q_10.symm) q_11.symm)
        rw [hQ9]
        exact x_aret hx hb hr (Or.inl ⟨_, rfl⟩) hlocks hP hD hS (S := Nat × Nat × (Int → Int)) (adr := (fun (u : Nat × Nat × (Int → Int)) => aB)) dJ5_append_3fe6f_76 ⟨aV_o_1, cp_o_2, (up bf_o_3 ct ch)⟩ rfl (show ((16 ≤ cp_o_2 ∧ cp_o_2 ≤ 100) ∧ ct + 1 ≤ (cp_o_2 : Int)) ∧ (∀ j : Int, 0 ≤ j → j < ct + 1 → (up bf_o_3 ct ch) j = (up bf ct ch) j) ∧ bnd (up bf_o_3 ct ch) 0 127 by
            first
            | (
               refine ⟨⟨hE.1.1, by omega⟩, fun j h1 h2 => ?_, bnd_up hE.2.2 (by omega) (by omega)⟩
               by_cases q : j = ct
               · rw [q]
                 simp only [up, ↓reduceIte]
                 try omega
               · have q2 := hE.2.1 j h1 (by omega)
                 simp only [up, if_neg q]
                 try omega)
            | fail "q9") hw_12 (Nat.le_of_ble_eq_true rfl) (Nat.le_of_ble_eq_true rfl)
  rw [hH, hlo, hQ9] at goal_
  exact goal_

set_option maxHeartbeats 4000000 in
set_option maxRecDepth 100000 in
theorem c_J4_appendC (l : Launch) (g : xg) (sz : Nat) (aB aV : Nat) (ml ct ch : Int) (bf : Int → Int) (cp : Nat) (hcp : 16 ≤ cp ∧ cp ≤ 100) (hct : 0 ≤ ct ∧ ct ≤ 45) (hcc : ct ≤ (cp : Int)) (hch : 0 ≤ ch ∧ ch ≤ 127) (hbf : bnd bf 0 127) : Met l yJ4_append_cf468 wsJ4_append_cf468 { frames := 5, cells := 1, slots := 100, locals := 125 } (va_Pc [.ref aB, .int (iI ch)] (xB g [(aB, .inr (1, [.ref aV, .int (iI 0), .int (iI ml), .int (iI ct)])), (aV, .inl (gB g, cp, .inl (ar bf)))] sz)) (va_Qr (fun (u : Nat × Nat × (Int → Int)) => ((16 ≤ u.2.1 ∧ u.2.1 ≤ 100) ∧ ct + 1 ≤ (u.2.1 : Int)) ∧ (∀ j : Int, 0 ≤ j → j < ct + 1 → u.2.2 j = (up bf ct ch) j) ∧ bnd u.2.2 0 127) (fun u a t => a = (fun (u : Nat × Nat × (Int → Int)) => aB) u ∧ xE g (va_A [(aB, .inr (1, [.ref aV, .int (iI 0), .int (iI ml), .int (iI ct)])), (aV, .inl (gB g, cp, .inl (ar bf)))] sz) ((fun (u : Nat × Nat × (Int → Int)) => [(aB, .inr (1, [.ref u.1, .int (iI 0), .int (iI ml), .int (iI (ct + 1))])), (u.1, .inl (gB g, u.2.1, .inl (ar u.2.2)))]) u) t) (va_A [(aB, .inr (1, [.ref aV, .int (iI 0), .int (iI ml), .int (iI ct)])), (aV, .inl (gB g, cp, .inl (ar bf)))] sz)) 1 100 (va_A [(aB, .inr (1, [.ref aV, .int (iI 0), .int (iI ml), .int (iI ct)])), (aV, .inl (gB g, cp, .inl (ar bf)))] sz) := by
  refine x_enter (y := yJ4_append_cf468) (ws := wsJ4_append_cf468) (g := g) (sz := sz) (av := [.ref aB, .int (iI ch)]) (WS := [(aB, .inr (1, [.ref aV, .int (iI 0), .int (iI ml), .int (iI ct)])), (aV, .inl (gB g, cp, .inl (ar bf)))]) (cc := cJ4_append_cf468) (maxL := 2) (ret := some (.object "java/lang/StringBuilder")) (Qc := (fun A => (va_Qr (fun (u : Nat × Nat × (Int → Int)) => ((16 ≤ u.2.1 ∧ u.2.1 ≤ 100) ∧ ct + 1 ≤ (u.2.1 : Int)) ∧ (∀ j : Int, 0 ≤ j → j < ct + 1 → u.2.2 j = (up bf ct ch) j) ∧ bnd u.2.2 0 127) (fun u a t => a = (fun (u : Nat × Nat × (Int → Int)) => aB) u ∧ xE g A ((fun (u : Nat × Nat × (Int → Int)) => [(aB, .inr (1, [.ref u.1, .int (iI 0), .int (iI ml), .int (iI (ct + 1))])), (u.1, .inl (gB g, u.2.1, .inl (ar u.2.2)))]) u) t) A))) (by decide) rfl (Nat.le_of_ble_eq_true rfl) ?_
  intro p e s m args below meth c A ls hx hb hr hml hown hts hlocks hname hC hP hD hS hA hl
  have hK := hC.1
  have hown : s.vm.findClass RJ4 = some m.cls := hown
  have hl : lv_has ls 2 [(0, .ref aB), (1, .int (iI ch))] := hl
  obtain ⟨H, hH⟩ : ∃ z, z = s.heap := ⟨_, rfl⟩
  obtain ⟨locs, hlo⟩ : ∃ z : List Loc, z = [] := ⟨_, rfl⟩
  obtain ⟨Q9, hQ9⟩ : ∃ z, z = MQ below (va_Qr (fun (u : Nat × Nat × (Int → Int)) => ((16 ≤ u.2.1 ∧ u.2.1 ≤ 100) ∧ ct + 1 ≤ (u.2.1 : Int)) ∧ (∀ j : Int, 0 ≤ j → j < ct + 1 → u.2.2 j = (up bf ct ch) j) ∧ bnd u.2.2 0 127) (fun u a t => a = (fun (u : Nat × Nat × (Int → Int)) => aB) u ∧ xE g A ((fun (u : Nat × Nat × (Int → Int)) => [(aB, .inr (1, [.ref u.1, .int (iI 0), .int (iI ml), .int (iI (ct + 1))])), (u.1, .inl (gB g, u.2.1, .inl (ar u.2.2)))]) u) t) A) args s 1 100 A := ⟨_, rfl⟩
  have hP : va_P (gD g) vwCl [(aB, .inr (1, [.ref aV, .int (iI 0), .int (iI ml), .int (iI ct)])), (aV, .inl (gB g, cp, .inl (ar bf)))] H := by rw [hH]; exact hP
  have hS : va_S A s.heap H locs := by rw [hH, hlo]; exact hS
  have goal_ : W p l e { frames := 5, cells := 1, slots := 100, locals := 125 } s m args below meth c H locs 0 0 Q9 (F0 m 0 ls []) := by
    clear hH hlo
    refine lv_aload_n hx hb dJ4_append_cf468_0 rfl (lv_at hl 0 rfl) ?_
    refine lv_iload_n hx hb dJ4_append_cf468_1 rfl (lv_at hl 1 rfl) ?_
    refine x_callr (S := Nat × Nat × (Int → Int)) (wc := [(aB, .inr (1, [.ref aV, .int (iI 0), .int (iI ml), .int (iI ct)])), (aV, .inl (gB g, cp, .inl (ar bf)))]) (wr := []) hC hP hD hS hA [0, 1] [] [0, 1] rfl rfl (fun hpre => va_runSU (As := [.int (iI ch)]) (rest := []) (hK.1 1 _ rfl).2 ⟨hx, hb, hml, hown, hts⟩ (c_J5_appendC l g H.size aB aV ml ct ch bf cp (by first | (first | assumption | omega | exact bnd_up (by assumption) (by omega) (by omega)) | fail "q8") (by first | (first | assumption | omega | exact bnd_up (by assumption) (by omega) (by omega)) | fail "q8") (by first | (first | assumption | omega | exact bnd_up (by assumption) (by omega) (by omega)) | fail "q8") (by first | (first | assumption | omega | exact bnd_up (by assumption) (by omega) (by omega)) | fail "q8") (by first | (first | assumption | omega | exact bnd_up (by assumption) (by omega) (by omega)) | fail "q8")) (va_cwSU 1 hts gJ4_append_cf468_J5_append_3fe6f_s50 rfl rfl rfl (by decide +kernel) ⟨Nat.le_of_ble_eq_true rfl, Nat.le_of_ble_eq_true rfl⟩) ⟨xB_blind, va_recv hK hP (ci := 1) (q0 := 0) rfl rfl, hpre _⟩ rfl rfl hl.1 rfl (lv_room (Nat.le_of_ble_eq_true rfl)) dJ4_append_cf468_2 ⟨Nat.le_of_ble_eq_true rfl, Nat.le_of_ble_eq_true rfl⟩) (fun (u : Nat × Nat × (Int → Int)) => [(aB, .inr (1, [.ref u.1, .int (iI 0), .int (iI ml), .int (iI (ct + 1))])), (u.1, .inl (gB g, u.2.1, .inl (ar u.2.2)))]) rfl rfl (by decide) (fun _ => rfl) rfl (fun u H locs hv_4 hP hD hS => ?_)
    obtain ⟨aV_o_1, cp_o_2, bf_o_3⟩ := u
    have hP : va_P (gD g) vwCl [(aB, .inr (1, [.ref aV_o_1, .int (iI 0), .int (iI ml), .int (iI (ct + 1))])), (aV_o_1, .inl (gB g, cp_o_2, .inl (ar bf_o_3)))] H := hP
    have hD : va_D A [(aB, .inr (1, [.ref aV_o_1, .int (iI 0), .int (iI ml), .int (iI (ct + 1))])), (aV_o_1, .inl (gB g, cp_o_2, .inl (ar bf_o_3)))] := hD
    have pv_4 : ((16 ≤ cp_o_2 ∧ cp_o_2 ≤ 100) ∧ ct + 1 ≤ (cp_o_2 : Int)) ∧ (∀ j : Int, 0 ≤ j → j < ct + 1 → bf_o_3 j = (up bf ct ch) j) ∧ bnd bf_o_3 0 127 := hv_4
    refine W.eq (g2 := F0 m 5 ls [.ref aB]) rfl ?_
    have hA9 := pv_4
    refine lv_pop hx hb dJ4_append_cf468_5 rfl ?_
    refine lv_aload_n hx hb dJ4_append_cf468_6 rfl (lv_at hl 0 rfl) ?_
    rw [hQ9]
    exact x_aret hx hb hr (Or.inl ⟨_, rfl⟩) hlocks hP hD hS (S := Nat × Nat × (Int → Int)) (adr := (fun (u : Nat × Nat × (Int → Int)) => aB)) dJ4_append_cf468_7 ⟨aV_o_1, cp_o_2, bf_o_3⟩ rfl (show ((16 ≤ cp_o_2 ∧ cp_o_2 ≤ 100) ∧ ct + 1 ≤ (cp_o_2 : Int)) ∧ (∀ j : Int, 0 ≤ j → j < ct + 1 → bf_o_3 j = (up bf ct ch) j) ∧ bnd bf_o_3 0 127 by
        first
        | (
           exact hA9)
        | fail "q9") rfl (Nat.le_of_ble_eq_true rfl) (Nat.le_of_ble_eq_true rfl)
  rw [hH, hlo, hQ9] at goal_
  exact goal_

set_option maxHeartbeats 4000000 in
set_option maxRecDepth 100000 in
theorem c_J5_length_8abf5 (l : Launch) (g : xg) (sz : Nat) (aB aV : Nat) (ml ct : Int) : Met l yJ5_length_8abf5 wsJ5_length_8abf5 { frames := 0, cells := 0, slots := 0, locals := 0 } (va_Pc [.ref aB] (xB g [(aB, .inr (1, [.ref aV, .int (iI 0), .int (iI ml), .int (iI ct)]))] sz)) (va_Qi (fun r u => r = iI ((fun (u : Unit) => ct) u) ∧ (fun (u : Unit) => True) u) (fun u t => xE g (va_A [(aB, .inr (1, [.ref aV, .int (iI 0), .int (iI ml), .int (iI ct)]))] sz) ((fun (u : Unit) => [(aB, .inr (1, [.ref aV, .int (iI 0), .int (iI ml), .int (iI ct)]))]) u) t) (va_A [(aB, .inr (1, [.ref aV, .int (iI 0), .int (iI ml), .int (iI ct)]))] sz)) 0 0 (va_A [(aB, .inr (1, [.ref aV, .int (iI 0), .int (iI ml), .int (iI ct)]))] sz) := by
  refine x_enter (y := yJ5_length_8abf5) (ws := wsJ5_length_8abf5) (g := g) (sz := sz) (av := [.ref aB]) (WS := [(aB, .inr (1, [.ref aV, .int (iI 0), .int (iI ml), .int (iI ct)]))]) (cc := cJ5_length_8abf5) (maxL := 1) (ret := some .int) (Qc := (fun A => (va_Qi (fun r u => r = iI ((fun (u : Unit) => ct) u) ∧ (fun (u : Unit) => True) u) (fun u t => xE g A ((fun (u : Unit) => [(aB, .inr (1, [.ref aV, .int (iI 0), .int (iI ml), .int (iI ct)]))]) u) t) A))) (by decide) rfl (Nat.le_of_ble_eq_true rfl) ?_
  intro p e s m args below meth c A ls hx hb hr hml hown hts hlocks hname hC hP hD hS hA hl
  have hK := hC.1
  have hown : s.vm.findClass RJ5 = some m.cls := hown
  have hinJ4 : ∀ w ∈ u_ws RJ4 TJ4 4, w ∈ wsJ5_length_8abf5 := by decide +kernel
  have hl : lv_has ls 1 [(0, .ref aB)] := hl
  obtain ⟨H, hH⟩ : ∃ z, z = s.heap := ⟨_, rfl⟩
  obtain ⟨locs, hlo⟩ : ∃ z : List Loc, z = [] := ⟨_, rfl⟩
  obtain ⟨Q9, hQ9⟩ : ∃ z, z = MQ below (va_Qi (fun r u => r = iI ((fun (u : Unit) => ct) u) ∧ (fun (u : Unit) => True) u) (fun u t => xE g A ((fun (u : Unit) => [(aB, .inr (1, [.ref aV, .int (iI 0), .int (iI ml), .int (iI ct)]))]) u) t) A) args s 0 0 A := ⟨_, rfl⟩
  have hP : va_P (gD g) vwCl [(aB, .inr (1, [.ref aV, .int (iI 0), .int (iI ml), .int (iI ct)]))] H := by rw [hH]; exact hP
  have hS : va_S A s.heap H locs := by rw [hH, hlo]; exact hS
  have goal_ : W p l e { frames := 0, cells := 0, slots := 0, locals := 0 } s m args below meth c H locs 0 0 Q9 (F0 m 0 ls []) := by
    clear hH hlo
    refine lv_aload_n hx hb dJ5_length_8abf5_0 rfl (lv_at hl 0 rfl) ?_
    refine va_get (D := gD g) (ci := 1) (v := .int (iI ct)) (C := RJ4) (T := TJ4) (N := 4) hx hb hts hinJ4 hown hK hP 0 rfl rfl 3 (by decide) (hts (.fieldLink RJ5 79 "java/lang/AbstractStringBuilder" "count" "I") (List.mem_of_getElem? (i := 1) rfl)) (fun _ h9 => h9) rfl dJ5_length_8abf5_1 ?_
    rw [hQ9]
    exact x_iret hx hb hr hlocks hP hD hS (S := Unit) rfl dJ5_length_8abf5_4 () rfl trivial rfl (Nat.le_of_ble_eq_true rfl) (Nat.le_of_ble_eq_true rfl)
  rw [hH, hlo, hQ9] at goal_
  exact goal_

set_option maxHeartbeats 4000000 in
set_option maxRecDepth 100000 in
theorem c_J4_length_8abf5 (l : Launch) (g : xg) (sz : Nat) (aB aV : Nat) (ml ct : Int) : Met l yJ4_length_8abf5 wsJ4_length_8abf5 { frames := 1, cells := 0, slots := 0, locals := 20 } (va_Pc [.ref aB] (xB g [(aB, .inr (1, [.ref aV, .int (iI 0), .int (iI ml), .int (iI ct)]))] sz)) (va_Qi (fun r u => r = iI ((fun (u : Unit) => ct) u) ∧ (fun (u : Unit) => True) u) (fun u t => xE g (va_A [(aB, .inr (1, [.ref aV, .int (iI 0), .int (iI ml), .int (iI ct)]))] sz) ((fun (u : Unit) => [(aB, .inr (1, [.ref aV, .int (iI 0), .int (iI ml), .int (iI ct)]))]) u) t) (va_A [(aB, .inr (1, [.ref aV, .int (iI 0), .int (iI ml), .int (iI ct)]))] sz)) 0 0 (va_A [(aB, .inr (1, [.ref aV, .int (iI 0), .int (iI ml), .int (iI ct)]))] sz) := by
  refine x_enter (y := yJ4_length_8abf5) (ws := wsJ4_length_8abf5) (g := g) (sz := sz) (av := [.ref aB]) (WS := [(aB, .inr (1, [.ref aV, .int (iI 0), .int (iI ml), .int (iI ct)]))]) (cc := cJ4_length_8abf5) (maxL := 1) (ret := some .int) (Qc := (fun A => (va_Qi (fun r u => r = iI ((fun (u : Unit) => ct) u) ∧ (fun (u : Unit) => True) u) (fun u t => xE g A ((fun (u : Unit) => [(aB, .inr (1, [.ref aV, .int (iI 0), .int (iI ml), .int (iI ct)]))]) u) t) A))) (by decide) rfl (Nat.le_of_ble_eq_true rfl) ?_
  intro p e s m args below meth c A ls hx hb hr hml hown hts hlocks hname hC hP hD hS hA hl
  have hK := hC.1
  have hown : s.vm.findClass RJ4 = some m.cls := hown
  have hl : lv_has ls 1 [(0, .ref aB)] := hl
  obtain ⟨H, hH⟩ : ∃ z, z = s.heap := ⟨_, rfl⟩
  obtain ⟨locs, hlo⟩ : ∃ z : List Loc, z = [] := ⟨_, rfl⟩
  obtain ⟨Q9, hQ9⟩ : ∃ z, z = MQ below (va_Qi (fun r u => r = iI ((fun (u : Unit) => ct) u) ∧ (fun (u : Unit) => True) u) (fun u t => xE g A ((fun (u : Unit) => [(aB, .inr (1, [.ref aV, .int (iI 0), .int (iI ml), .int (iI ct)]))]) u) t) A) args s 0 0 A := ⟨_, rfl⟩
  have hP : va_P (gD g) vwCl [(aB, .inr (1, [.ref aV, .int (iI 0), .int (iI ml), .int (iI ct)]))] H := by rw [hH]; exact hP
  have hS : va_S A s.heap H locs := by rw [hH, hlo]; exact hS
  have goal_ : W p l e { frames := 1, cells := 0, slots := 0, locals := 20 } s m args below meth c H locs 0 0 Q9 (F0 m 0 ls []) := by
    clear hH hlo
    refine lv_aload_n hx hb dJ4_length_8abf5_0 rfl (lv_at hl 0 rfl) ?_
    refine x_calli (S := Unit) (wc := [(aB, .inr (1, [.ref aV, .int (iI 0), .int (iI ml), .int (iI ct)]))]) (wr := []) hC hP hD hS hA [0] [] [0] rfl rfl (fun hpre => va_runSU (As := []) (rest := []) (hK.1 1 _ rfl).2 ⟨hx, hb, hml, hown, hts⟩ (c_J5_length_8abf5 l g H.size aB aV ml ct) (va_cwSU 0 hts gJ4_length_8abf5_J5_length_8abf5_s343 rfl rfl rfl (by decide +kernel) ⟨Nat.le_of_ble_eq_true rfl, Nat.le_of_ble_eq_true rfl⟩) ⟨xB_blind, va_recv hK hP (ci := 1) (q0 := 0) rfl rfl, hpre _⟩ rfl rfl hl.1 rfl (lv_room (Nat.le_of_ble_eq_true rfl)) dJ4_length_8abf5_1 ⟨Nat.le_of_ble_eq_true rfl, Nat.le_of_ble_eq_true rfl⟩) (fun (u : Unit) => [(aB, .inr (1, [.ref aV, .int (iI 0), .int (iI ml), .int (iI ct)]))]) rfl rfl (by decide) (fun _ => rfl) rfl (fun u v_1 H locs hv_1 pv_1 hP hD hS => ?_)
    have hP : va_P (gD g) vwCl [(aB, .inr (1, [.ref aV, .int (iI 0), .int (iI ml), .int (iI ct)]))] H := hP
    have hD : va_D A [(aB, .inr (1, [.ref aV, .int (iI 0), .int (iI ml), .int (iI ct)]))] := hD
    have hv_1 : v_1 = ct := hv_1
    rw [hQ9]
    exact x_iret hx hb hr hlocks hP hD hS (S := Unit) rfl dJ4_length_8abf5_4 () (by
        first
        | (
           first | rfl | omega | (subst_vars; first | rfl | omega))
        | fail "q9") trivial rfl (Nat.le_of_ble_eq_true rfl) (Nat.le_of_ble_eq_true rfl)
  rw [hH, hlo, hQ9] at goal_
  exact goal_

set_option maxHeartbeats 4000000 in
set_option maxRecDepth 100000 in
theorem c_J3_checkIndexN (l : Launch) (g : xg) (sz : Nat) (ix n_ : Int) (hix : 0 ≤ ix ∧ ix < n_ ∧ n_ ≤ 1000) : Met l yJ3_checkIndex_8e157 wsJ3_checkIndex_8e157 { frames := 0, cells := 0, slots := 0, locals := 0 } (va_Pc [.int (iI ix), .int (iI n_), .null] (xB g [] sz)) (va_Qi (fun r u => r = iI ((fun (u : Unit) => ix) u) ∧ (fun (u : Unit) => True) u) (fun u t => xE g (va_A [] sz) ((fun (u : Unit) => []) u) t) (va_A [] sz)) 0 0 (va_A [] sz) := by
  refine x_enter (y := yJ3_checkIndex_8e157) (ws := wsJ3_checkIndex_8e157) (g := g) (sz := sz) (av := [.int (iI ix), .int (iI n_), .null]) (WS := []) (cc := cJ3_checkIndex_8e157) (maxL := 3) (ret := some .int) (Qc := (fun A => (va_Qi (fun r u => r = iI ((fun (u : Unit) => ix) u) ∧ (fun (u : Unit) => True) u) (fun u t => xE g A ((fun (u : Unit) => []) u) t) A))) (by decide) rfl (Nat.le_of_ble_eq_true rfl) ?_
  intro p e s m args below meth c A ls hx hb hr hml hown hts hlocks hname hC hP hD hS hA hl
  have hK := hC.1
  have hown : s.vm.findClass RJ3 = some m.cls := hown
  have hl : lv_has ls 3 [(0, .int (iI ix)), (1, .int (iI n_)), (2, .null)] := hl
  obtain ⟨H, hH⟩ : ∃ z, z = s.heap := ⟨_, rfl⟩
  obtain ⟨locs, hlo⟩ : ∃ z : List Loc, z = [] := ⟨_, rfl⟩
  obtain ⟨Q9, hQ9⟩ : ∃ z, z = MQ below (va_Qi (fun r u => r = iI ((fun (u : Unit) => ix) u) ∧ (fun (u : Unit) => True) u) (fun u t => xE g A ((fun (u : Unit) => []) u) t) A) args s 0 0 A := ⟨_, rfl⟩
  have hP : va_P (gD g) vwCl [] H := by rw [hH]; exact hP
  have hS : va_S A s.heap H locs := by rw [hH, hlo]; exact hS
  have goal_ : W p l e { frames := 0, cells := 0, slots := 0, locals := 0 } s m args below meth c H locs 0 0 Q9 (F0 m 0 ls []) := by
    clear hH hlo
    refine lv_iload_n hx hb dJ3_checkIndex_8e157_0 rfl (lv_at hl 0 rfl) ?_
    refine x_if_lt (tgt := 9) hx hb (by omega) dJ3_checkIndex_8e157_1 (by decide) (fun c_1 => ?_) (fun c_1 => ?_)
    · skip
      exfalso; omega
    · skip
      refine lv_iload_n hx hb dJ3_checkIndex_8e157_4 rfl (lv_at hl 0 rfl) ?_
      refine lv_iload_n hx hb dJ3_checkIndex_8e157_5 rfl (lv_at hl 1 rfl) ?_
      refine x_cmp_lt (tgt := 16) hx hb (by omega) (by omega) dJ3_checkIndex_8e157_6 (by decide) (fun c_2 => ?_) (fun c_2 => ?_)
      · skip
        refine lv_iload_n hx hb dJ3_checkIndex_8e157_16 rfl (lv_at hl 0 rfl) ?_
        rw [hQ9]
        exact x_iret hx hb hr hlocks hP hD hS (S := Unit) rfl dJ3_checkIndex_8e157_17 () rfl trivial rfl (Nat.le_of_ble_eq_true rfl) (Nat.le_of_ble_eq_true rfl)
      · skip
        exfalso; omega
  rw [hH, hlo, hQ9] at goal_
  exact goal_

set_option maxHeartbeats 4000000 in
set_option maxRecDepth 100000 in
theorem c_J3_checkIndexR (l : Launch) (g : xg) (sz : Nat) (tz : Nat) (ix n_ : Int) (hix : 0 ≤ ix ∧ ix < n_ ∧ n_ ≤ 1000) : Met l yJ3_checkIndex_8e157 wsJ3_checkIndex_8e157 { frames := 0, cells := 0, slots := 0, locals := 0 } (va_Pc [.int (iI ix), .int (iI n_), .ref tz] (xB g [] sz)) (va_Qi (fun r u => r = iI ((fun (u : Unit) => ix) u) ∧ (fun (u : Unit) => True) u) (fun u t => xE g (va_A [] sz) ((fun (u : Unit) => []) u) t) (va_A [] sz)) 0 0 (va_A [] sz) := by
  refine x_enter (y := yJ3_checkIndex_8e157) (ws := wsJ3_checkIndex_8e157) (g := g) (sz := sz) (av := [.int (iI ix), .int (iI n_), .ref tz]) (WS := []) (cc := cJ3_checkIndex_8e157) (maxL := 3) (ret := some .int) (Qc := (fun A => (va_Qi (fun r u => r = iI ((fun (u : Unit) => ix) u) ∧ (fun (u : Unit) => True) u) (fun u t => xE g A ((fun (u : Unit) => []) u) t) A))) (by decide) rfl (Nat.le_of_ble_eq_true rfl) ?_
  intro p e s m args below meth c A ls hx hb hr hml hown hts hlocks hname hC hP hD hS hA hl
  have hK := hC.1
  have hown : s.vm.findClass RJ3 = some m.cls := hown
  have hl : lv_has ls 3 [(0, .int (iI ix)), (1, .int (iI n_)), (2, .ref tz)] := hl
  obtain ⟨H, hH⟩ : ∃ z, z = s.heap := ⟨_, rfl⟩
  obtain ⟨locs, hlo⟩ : ∃ z : List Loc, z = [] := ⟨_, rfl⟩
  obtain ⟨Q9, hQ9⟩ : ∃ z, z = MQ below (va_Qi (fun r u => r = iI ((fun (u : Unit) => ix) u) ∧ (fun (u : Unit) => True) u) (fun u t => xE g A ((fun (u : Unit) => []) u) t) A) args s 0 0 A := ⟨_, rfl⟩
  have hP : va_P (gD g) vwCl [] H := by rw [hH]; exact hP
  have hS : va_S A s.heap H locs := by rw [hH, hlo]; exact hS
  have goal_ : W p l e { frames := 0, cells := 0, slots := 0, locals := 0 } s m args below meth c H locs 0 0 Q9 (F0 m 0 ls []) := by
    clear hH hlo
    refine lv_iload_n hx hb dJ3_checkIndex_8e157_0 rfl (lv_at hl 0 rfl) ?_
    refine x_if_lt (tgt := 9) hx hb (by omega) dJ3_checkIndex_8e157_1 (by decide) (fun c_1 => ?_) (fun c_1 => ?_)
    · skip
      exfalso; omega
    · skip
      refine lv_iload_n hx hb dJ3_checkIndex_8e157_4 rfl (lv_at hl 0 rfl) ?_
      refine lv_iload_n hx hb dJ3_checkIndex_8e157_5 rfl (lv_at hl 1 rfl) ?_
      refine x_cmp_lt (tgt := 16) hx hb (by omega) (by omega) dJ3_checkIndex_8e157_6 (by decide) (fun c_2 => ?_) (fun c_2 => ?_)
      · skip
        refine lv_iload_n hx hb dJ3_checkIndex_8e157_16 rfl (lv_at hl 0 rfl) ?_
        rw [hQ9]
        exact x_iret hx hb hr hlocks hP hD hS (S := Unit) rfl dJ3_checkIndex_8e157_17 () rfl trivial rfl (Nat.le_of_ble_eq_true rfl) (Nat.le_of_ble_eq_true rfl)
      · skip
        exfalso; omega
  rw [hH, hlo, hQ9] at goal_
  exact goal_

set_option maxHeartbeats 4000000 in
set_option maxRecDepth 100000 in
theorem c_J0_checkIndex_df160 (l : Launch) (g : xg) (sz : Nat) (ix n_ : Int) (hix : 0 ≤ ix ∧ ix < n_ ∧ n_ ≤ 1000) : Met l yJ0_checkIndex_df160 wsJ0_checkIndex_df160 { frames := 1, cells := 0, slots := 0, locals := 22 } (va_Pc [.int (iI ix), .int (iI n_)] (xB g [] sz)) (va_Qv (fun (u : Unit) => True) (fun u t => xE g (va_A [] sz) ((fun (u : Unit) => []) u) t) (va_A [] sz)) 0 0 (va_A [] sz) := by
  refine x_enter (y := yJ0_checkIndex_df160) (ws := wsJ0_checkIndex_df160) (g := g) (sz := sz) (av := [.int (iI ix), .int (iI n_)]) (WS := []) (cc := cJ0_checkIndex_df160) (maxL := 2) (ret := none) (Qc := (fun A => (va_Qv (fun (u : Unit) => True) (fun u t => xE g A ((fun (u : Unit) => []) u) t) A))) (by decide) rfl (Nat.le_of_ble_eq_true rfl) ?_
  intro p e s m args below meth c A ls hx hb hr hml hown hts hlocks hname hC hP hD hS hA hl
  have hK := hC.1
  have hown : s.vm.findClass RJ0 = some m.cls := hown
  have hl : lv_has ls 2 [(0, .int (iI ix)), (1, .int (iI n_))] := hl
  obtain ⟨H, hH⟩ : ∃ z, z = s.heap := ⟨_, rfl⟩
  obtain ⟨locs, hlo⟩ : ∃ z : List Loc, z = [] := ⟨_, rfl⟩
  obtain ⟨Q9, hQ9⟩ : ∃ z, z = MQ below (va_Qv (fun (u : Unit) => True) (fun u t => xE g A ((fun (u : Unit) => []) u) t) A) args s 0 0 A := ⟨_, rfl⟩
  have hP : va_P (gD g) vwCl [] H := by rw [hH]; exact hP
  have hS : va_S A s.heap H locs := by rw [hH, hlo]; exact hS
  have goal_ : W p l e { frames := 1, cells := 0, slots := 0, locals := 22 } s m args below meth c H locs 0 0 Q9 (F0 m 0 ls []) := by
    clear hH hlo
    refine lv_iload_n hx hb dJ0_checkIndex_df160_0 rfl (lv_at hl 0 rfl) ?_
    refine lv_iload_n hx hb dJ0_checkIndex_df160_1 rfl (lv_at hl 1 rfl) ?_
    rcases hC.d.2.2.2.2.2.2.2 with hz9 | ⟨tz, hz9⟩
    · skip
      refine va_gets hx hb hz9 hS hown (hts (.fieldLink RJ0 1053 "jdk/internal/util/Preconditions" "SIOOBE_FORMATTER" "Ljava/util/function/BiFunction;") (List.mem_of_getElem? (i := 1) rfl)) (fun _ h9 => h9) dJ0_checkIndex_df160_2 ?_
      refine x_calli (S := Unit) (wc := []) (wr := []) hC hP hD hS hA [] [] [] rfl rfl (fun hpre => va_runS (As := [.int (iI ix), .int (iI n_), .null]) (rest := []) ⟨hx, hb, hml, hown, hts⟩ (c_J3_checkIndexN l g H.size ix n_ (by first | (first | assumption | omega | exact bnd_up (by assumption) (by omega) (by omega)) | fail "q8")) (va_cwS 3 hts gJ0_checkIndex_df160_J3_checkIndex_8e157 rfl rfl rfl (by decide +kernel) ⟨Nat.le_of_ble_eq_true rfl, Nat.le_of_ble_eq_true rfl⟩) ⟨xB_blind, hpre _⟩ rfl rfl hl.1 rfl (lv_room (Nat.le_of_ble_eq_true rfl)) dJ0_checkIndex_df160_5 ⟨Nat.le_of_ble_eq_true rfl, Nat.le_of_ble_eq_true rfl⟩) (fun (u : Unit) => []) rfl rfl (by decide) (fun _ => rfl) rfl (fun u v_1 H locs hv_1 pv_1 hP hD hS => ?_)
      have hP : va_P (gD g) vwCl [] H := hP
      have hD : va_D A [] := hD
      have hv_1 : v_1 = ix := hv_1
      refine lv_pop hx hb dJ0_checkIndex_df160_8 rfl ?_
      rw [hQ9]
      exact x_vret hx hb hr hlocks hP hD hS (S := Unit) (Φ := _) (W1 := _) dJ0_checkIndex_df160_9 () trivial rfl (Nat.le_of_ble_eq_true rfl) (Nat.le_of_ble_eq_true rfl)
    · skip
      refine va_gets hx hb hz9 hS hown (hts (.fieldLink RJ0 1053 "jdk/internal/util/Preconditions" "SIOOBE_FORMATTER" "Ljava/util/function/BiFunction;") (List.mem_of_getElem? (i := 1) rfl)) (fun _ h9 => h9) dJ0_checkIndex_df160_2 ?_
      refine x_calli (S := Unit) (wc := []) (wr := []) hC hP hD hS hA [] [] [] rfl rfl (fun hpre => va_runS (As := [.int (iI ix), .int (iI n_), .ref tz]) (rest := []) ⟨hx, hb, hml, hown, hts⟩ (c_J3_checkIndexR l g H.size tz ix n_ (by first | (first | assumption | omega | exact bnd_up (by assumption) (by omega) (by omega)) | fail "q8")) (va_cwS 3 hts gJ0_checkIndex_df160_J3_checkIndex_8e157 rfl rfl rfl (by decide +kernel) ⟨Nat.le_of_ble_eq_true rfl, Nat.le_of_ble_eq_true rfl⟩) ⟨xB_blind, hpre _⟩ rfl rfl hl.1 rfl (lv_room (Nat.le_of_ble_eq_true rfl)) dJ0_checkIndex_df160_5 ⟨Nat.le_of_ble_eq_true rfl, Nat.le_of_ble_eq_true rfl⟩) (fun (u : Unit) => []) rfl rfl (by decide) (fun _ => rfl) rfl (fun u v_2 H locs hv_2 pv_2 hP hD hS => ?_)
      have hP : va_P (gD g) vwCl [] H := hP
      have hD : va_D A [] := hD
      have hv_2 : v_2 = ix := hv_2
      refine lv_pop hx hb dJ0_checkIndex_df160_8 rfl ?_
      rw [hQ9]
      exact x_vret hx hb hr hlocks hP hD hS (S := Unit) (Φ := _) (W1 := _) dJ0_checkIndex_df160_9 () trivial rfl (Nat.le_of_ble_eq_true rfl) (Nat.le_of_ble_eq_true rfl)
  rw [hH, hlo, hQ9] at goal_
  exact goal_

set_option maxHeartbeats 4000000 in
set_option maxRecDepth 100000 in
theorem c_J5_charAt_5068e (l : Launch) (g : xg) (sz : Nat) (aB aV : Nat) (ml ct ix : Int) (bf : Int → Int) (cp : Nat) (hcp : 16 ≤ cp ∧ cp ≤ 100) (hct : 0 ≤ ct ∧ ct ≤ 45) (hcc : ct ≤ (cp : Int)) (hbf : bnd bf 0 127) (hix : 0 ≤ ix ∧ ix < ct) : Met l yJ5_charAt_5068e wsJ5_charAt_5068e { frames := 2, cells := 0, slots := 0, locals := 43 } (va_Pc [.ref aB, .int (iI ix)] (xB g [(aB, .inr (1, [.ref aV, .int (iI 0), .int (iI ml), .int (iI ct)])), (aV, .inl (gB g, cp, .inl (ar bf)))] sz)) (va_Qi (fun r u => r = iI ((fun (u : Unit) => bf ix) u) ∧ (fun (u : Unit) => True) u) (fun u t => xE g (va_A [(aB, .inr (1, [.ref aV, .int (iI 0), .int (iI ml), .int (iI ct)])), (aV, .inl (gB g, cp, .inl (ar bf)))] sz) ((fun (u : Unit) => [(aB, .inr (1, [.ref aV, .int (iI 0), .int (iI ml), .int (iI ct)])), (aV, .inl (gB g, cp, .inl (ar bf)))]) u) t) (va_A [(aB, .inr (1, [.ref aV, .int (iI 0), .int (iI ml), .int (iI ct)])), (aV, .inl (gB g, cp, .inl (ar bf)))] sz)) 0 0 (va_A [(aB, .inr (1, [.ref aV, .int (iI 0), .int (iI ml), .int (iI ct)])), (aV, .inl (gB g, cp, .inl (ar bf)))] sz) := by
  refine x_enter (y := yJ5_charAt_5068e) (ws := wsJ5_charAt_5068e) (g := g) (sz := sz) (av := [.ref aB, .int (iI ix)]) (WS := [(aB, .inr (1, [.ref aV, .int (iI 0), .int (iI ml), .int (iI ct)])), (aV, .inl (gB g, cp, .inl (ar bf)))]) (cc := cJ5_charAt_5068e) (maxL := 5) (ret := some .char) (Qc := (fun A => (va_Qi (fun r u => r = iI ((fun (u : Unit) => bf ix) u) ∧ (fun (u : Unit) => True) u) (fun u t => xE g A ((fun (u : Unit) => [(aB, .inr (1, [.ref aV, .int (iI 0), .int (iI ml), .int (iI ct)])), (aV, .inl (gB g, cp, .inl (ar bf)))]) u) t) A))) (by decide) rfl (Nat.le_of_ble_eq_true rfl) ?_
  intro p e s m args below meth c A ls hx hb hr hml hown hts hlocks hname hC hP hD hS hA hl
  have hK := hC.1
  have hown : s.vm.findClass RJ5 = some m.cls := hown
  have hinJ4 : ∀ w ∈ u_ws RJ4 TJ4 4, w ∈ wsJ5_charAt_5068e := by decide +kernel
  have hl : lv_has ls 5 [(0, .ref aB), (1, .int (iI ix))] := hl
  obtain ⟨H, hH⟩ : ∃ z, z = s.heap := ⟨_, rfl⟩
  obtain ⟨locs, hlo⟩ : ∃ z : List Loc, z = [] := ⟨_, rfl⟩
  obtain ⟨Q9, hQ9⟩ : ∃ z, z = MQ below (va_Qi (fun r u => r = iI ((fun (u : Unit) => bf ix) u) ∧ (fun (u : Unit) => True) u) (fun u t => xE g A ((fun (u : Unit) => [(aB, .inr (1, [.ref aV, .int (iI 0), .int (iI ml), .int (iI ct)])), (aV, .inl (gB g, cp, .inl (ar bf)))]) u) t) A) args s 0 0 A := ⟨_, rfl⟩
  have hP : va_P (gD g) vwCl [(aB, .inr (1, [.ref aV, .int (iI 0), .int (iI ml), .int (iI ct)])), (aV, .inl (gB g, cp, .inl (ar bf)))] H := by rw [hH]; exact hP
  have hS : va_S A s.heap H locs := by rw [hH, hlo]; exact hS
  have goal_ : W p l e { frames := 2, cells := 0, slots := 0, locals := 43 } s m args below meth c H locs 0 0 Q9 (F0 m 0 ls []) := by
    clear hH hlo
    have hbx := hbf ix
    refine lv_aload_n hx hb dJ5_charAt_5068e_0 rfl (lv_at hl 0 rfl) ?_
    refine va_get (D := gD g) (ci := 1) (v := .int (iI 0)) (C := RJ4) (T := TJ4) (N := 4) hx hb hts hinJ4 hown hK hP 0 rfl rfl 1 (by decide) (hts (.fieldLink RJ5 22 "java/lang/AbstractStringBuilder" "coder" "B") (List.mem_of_getElem? (i := 1) rfl)) (fun _ h9 => h9) rfl dJ5_charAt_5068e_1 ?_
    refine lv_istore_n (lv' := [(2, .int (iI 0)), (0, .ref aB), (1, .int (iI ix))]) hx hb dJ5_charAt_5068e_4 rfl hl (by decide) rfl (fun ls hl => ?_)
    refine lv_aload_n hx hb dJ5_charAt_5068e_5 rfl (lv_at hl 1 rfl) ?_
    refine va_get (D := gD g) (ci := 1) (v := .ref aV) (C := RJ4) (T := TJ4) (N := 4) hx hb hts hinJ4 hown hK hP 0 rfl rfl 0 (by decide) (hts (.fieldLink RJ5 15 "java/lang/AbstractStringBuilder" "value" "[B") (List.mem_of_getElem? (i := 2) rfl)) (fun _ h9 => h9) rfl dJ5_charAt_5068e_6 ?_
    refine lv_astore_n (lv' := [(3, .ref aV), (2, .int (iI 0)), (0, .ref aB), (1, .int (iI ix))]) hx hb dJ5_charAt_5068e_9 rfl hl (by decide) rfl (fun ls hl => ?_)
    refine lv_aload_n hx hb dJ5_charAt_5068e_10 rfl (lv_at hl 2 rfl) ?_
    refine va_get (D := gD g) (ci := 1) (v := .int (iI ct)) (C := RJ4) (T := TJ4) (N := 4) hx hb hts hinJ4 hown hK hP 0 rfl rfl 3 (by decide) (hts (.fieldLink RJ5 79 "java/lang/AbstractStringBuilder" "count" "I") (List.mem_of_getElem? (i := 3) rfl)) (fun _ h9 => h9) rfl dJ5_charAt_5068e_11 ?_
    refine lv_aload_n hx hb dJ5_charAt_5068e_14 rfl (lv_at hl 0 rfl) ?_
    refine x_balen hx hb hK hP 1 rfl dJ5_charAt_5068e_15 ?_
    refine lv_iload_n hx hb dJ5_charAt_5068e_16 rfl (lv_at hl 1 rfl) ?_
    refine x_ishr0 hx hb dJ5_charAt_5068e_17 ?_
    refine x_min hx hb (hml.trans hl.1.symm) hown (hts (.methodLink RJ5 138 Lib.Math.min.name) (List.mem_of_getElem? (i := 4) rfl)) (hts (.static Lib.Math.min.name) (List.mem_of_getElem? (i := 5) rfl)) (hts (.initialized "java/lang/Math") (List.mem_of_getElem? (i := 6) rfl)) (hts (.code Lib.Math.min.name Lib.Math.min.code 2 (some .int)) (List.mem_of_getElem? (i := 7) rfl)) (Nat.le_of_ble_eq_true rfl) (Nat.le_of_ble_eq_true rfl) (Nat.le_of_ble_eq_true rfl) (Nat.le_of_ble_eq_true rfl) (by omega) (by omega) dJ5_charAt_5068e_18 (fun v_1 hv_1 => ?_)
    have bv_1 := mn_r ct (cp : Int) hv_1
    refine lv_istore (lv' := [(4, .int (iI v_1)), (3, .ref aV), (2, .int (iI 0)), (0, .ref aB), (1, .int (iI ix))]) hx hb dJ5_charAt_5068e_21 hl (by decide) rfl (fun ls hl => ?_)
    refine lv_iload_n hx hb dJ5_charAt_5068e_23 rfl (lv_at hl 4 rfl) ?_
    refine lv_iload hx hb dJ5_charAt_5068e_24 (lv_at hl 0 rfl) ?_
    refine x_callv (S := Unit) (wc := []) (wr := [(aB, .inr (1, [.ref aV, .int (iI 0), .int (iI ml), .int (iI ct)])), (aV, .inl (gB g, cp, .inl (ar bf)))]) hC hP hD hS hA [] [0, 1] [0, 1] rfl rfl (fun hpre => va_runS (As := [.int (iI ix), .int (iI v_1)]) (rest := []) ⟨hx, hb, hml, hown, hts⟩ (c_J0_checkIndex_df160 l g H.size ix v_1 (by first | (first | assumption | omega | exact bnd_up (by assumption) (by omega) (by omega)) | fail "q8")) (va_cwS 2 hts gJ5_charAt_5068e_J0_checkIndex_df160 rfl rfl rfl (by decide +kernel) ⟨Nat.le_of_ble_eq_true rfl, Nat.le_of_ble_eq_true rfl⟩) ⟨xB_blind, hpre _⟩ rfl rfl hl.1 rfl (lv_room (Nat.le_of_ble_eq_true rfl)) dJ5_charAt_5068e_26 ⟨Nat.le_of_ble_eq_true rfl, Nat.le_of_ble_eq_true rfl⟩) (fun (u : Unit) => [(aB, .inr (1, [.ref aV, .int (iI 0), .int (iI ml), .int (iI ct)])), (aV, .inl (gB g, cp, .inl (ar bf)))]) rfl rfl (by decide) (fun _ => rfl) rfl (fun u H locs hv_2 hP hD hS => ?_)
    have hP : va_P (gD g) vwCl [(aB, .inr (1, [.ref aV, .int (iI 0), .int (iI ml), .int (iI ct)])), (aV, .inl (gB g, cp, .inl (ar bf)))] H := hP
    have hD : va_D A [(aB, .inr (1, [.ref aV, .int (iI 0), .int (iI ml), .int (iI ct)])), (aV, .inl (gB g, cp, .inl (ar bf)))] := hD
    refine lv_iload_n hx hb dJ5_charAt_5068e_29 rfl (lv_at hl 2 rfl) ?_
    refine x_if_ne (tgt := 42) hx hb (by omega) dJ5_charAt_5068e_30 (by decide) (fun c_3 => ?_) (fun c_3 => ?_)
    · skip
      exact absurd c_3 (by decide)
    · skip
      refine lv_aload_n hx hb dJ5_charAt_5068e_33 rfl (lv_at hl 1 rfl) ?_
      refine lv_iload_n hx hb dJ5_charAt_5068e_34 rfl (lv_at hl 4 rfl) ?_
      refine x_bald hx hb hK hP 1 rfl (by omega) (by omega) (by omega) dJ5_charAt_5068e_35 (fun v_4 hv_4 => ?_)
      have bv_4 : 0 ≤ v_4 ∧ v_4 ≤ 127 := by rw [hv_4]; exact hbf _
      refine x_sipush hx hb dJ5_charAt_5068e_36 (by decide) ?_
      refine x_iand255 hx hb (by omega) dJ5_charAt_5068e_39 ?_
      refine x_i2c hx hb (by omega) dJ5_charAt_5068e_40 ?_
      rw [hQ9]
      exact x_iret hx hb hr hlocks hP hD hS (S := Unit) (nar_c (by omega)) dJ5_charAt_5068e_41 () (by
          first
          | (
             first | rfl | omega | (subst_vars; first | rfl | omega))
          | fail "q9") trivial rfl (Nat.le_of_ble_eq_true rfl) (Nat.le_of_ble_eq_true rfl)
  rw [hH, hlo, hQ9] at goal_
  exact goal_

set_option maxHeartbeats 4000000 in
set_option maxRecDepth 100000 in
theorem c_J4_charAt_5068e (l : Launch) (g : xg) (sz : Nat) (aB aV : Nat) (ml ct ix : Int) (bf : Int → Int) (cp : Nat) (hcp : 16 ≤ cp ∧ cp ≤ 100) (hct : 0 ≤ ct ∧ ct ≤ 45) (hcc : ct ≤ (cp : Int)) (hbf : bnd bf 0 127) (hix : 0 ≤ ix ∧ ix < ct) : Met l yJ4_charAt_5068e wsJ4_charAt_5068e { frames := 3, cells := 0, slots := 0, locals := 67 } (va_Pc [.ref aB, .int (iI ix)] (xB g [(aB, .inr (1, [.ref aV, .int (iI 0), .int (iI ml), .int (iI ct)])), (aV, .inl (gB g, cp, .inl (ar bf)))] sz)) (va_Qi (fun r u => r = iI ((fun (u : Unit) => bf ix) u) ∧ (fun (u : Unit) => True) u) (fun u t => xE g (va_A [(aB, .inr (1, [.ref aV, .int (iI 0), .int (iI ml), .int (iI ct)])), (aV, .inl (gB g, cp, .inl (ar bf)))] sz) ((fun (u : Unit) => [(aB, .inr (1, [.ref aV, .int (iI 0), .int (iI ml), .int (iI ct)])), (aV, .inl (gB g, cp, .inl (ar bf)))]) u) t) (va_A [(aB, .inr (1, [.ref aV, .int (iI 0), .int (iI ml), .int (iI ct)])), (aV, .inl (gB g, cp, .inl (ar bf)))] sz)) 0 0 (va_A [(aB, .inr (1, [.ref aV, .int (iI 0), .int (iI ml), .int (iI ct)])), (aV, .inl (gB g, cp, .inl (ar bf)))] sz) := by
  refine x_enter (y := yJ4_charAt_5068e) (ws := wsJ4_charAt_5068e) (g := g) (sz := sz) (av := [.ref aB, .int (iI ix)]) (WS := [(aB, .inr (1, [.ref aV, .int (iI 0), .int (iI ml), .int (iI ct)])), (aV, .inl (gB g, cp, .inl (ar bf)))]) (cc := cJ4_charAt_5068e) (maxL := 2) (ret := some .char) (Qc := (fun A => (va_Qi (fun r u => r = iI ((fun (u : Unit) => bf ix) u) ∧ (fun (u : Unit) => True) u) (fun u t => xE g A ((fun (u : Unit) => [(aB, .inr (1, [.ref aV, .int (iI 0), .int (iI ml), .int (iI ct)])), (aV, .inl (gB g, cp, .inl (ar bf)))]) u) t) A))) (by decide) rfl (Nat.le_of_ble_eq_true rfl) ?_
  intro p e s m args below meth c A ls hx hb hr hml hown hts hlocks hname hC hP hD hS hA hl
  have hK := hC.1
  have hown : s.vm.findClass RJ4 = some m.cls := hown
  have hl : lv_has ls 2 [(0, .ref aB), (1, .int (iI ix))] := hl
  obtain ⟨H, hH⟩ : ∃ z, z = s.heap := ⟨_, rfl⟩
  obtain ⟨locs, hlo⟩ : ∃ z : List Loc, z = [] := ⟨_, rfl⟩
  obtain ⟨Q9, hQ9⟩ : ∃ z, z = MQ below (va_Qi (fun r u => r = iI ((fun (u : Unit) => bf ix) u) ∧ (fun (u : Unit) => True) u) (fun u t => xE g A ((fun (u : Unit) => [(aB, .inr (1, [.ref aV, .int (iI 0), .int (iI ml), .int (iI ct)])), (aV, .inl (gB g, cp, .inl (ar bf)))]) u) t) A) args s 0 0 A := ⟨_, rfl⟩
  have hP : va_P (gD g) vwCl [(aB, .inr (1, [.ref aV, .int (iI 0), .int (iI ml), .int (iI ct)])), (aV, .inl (gB g, cp, .inl (ar bf)))] H := by rw [hH]; exact hP
  have hS : va_S A s.heap H locs := by rw [hH, hlo]; exact hS
  have goal_ : W p l e { frames := 3, cells := 0, slots := 0, locals := 67 } s m args below meth c H locs 0 0 Q9 (F0 m 0 ls []) := by
    clear hH hlo
    have hbx := hbf ix
    refine lv_aload_n hx hb dJ4_charAt_5068e_0 rfl (lv_at hl 0 rfl) ?_
    refine lv_iload_n hx hb dJ4_charAt_5068e_1 rfl (lv_at hl 1 rfl) ?_
    refine x_calli (S := Unit) (wc := [(aB, .inr (1, [.ref aV, .int (iI 0), .int (iI ml), .int (iI ct)])), (aV, .inl (gB g, cp, .inl (ar bf)))]) (wr := []) hC hP hD hS hA [0, 1] [] [0, 1] rfl rfl (fun hpre => va_runSU (As := [.int (iI ix)]) (rest := []) (hK.1 1 _ rfl).2 ⟨hx, hb, hml, hown, hts⟩ (c_J5_charAt_5068e l g H.size aB aV ml ct ix bf cp (by first | (first | assumption | omega | exact bnd_up (by assumption) (by omega) (by omega)) | fail "q8") (by first | (first | assumption | omega | exact bnd_up (by assumption) (by omega) (by omega)) | fail "q8") (by first | (first | assumption | omega | exact bnd_up (by assumption) (by omega) (by omega)) | fail "q8") (by first | (first | assumption | omega | exact bnd_up (by assumption) (by omega) (by omega)) | fail "q8") (by first | (first | assumption | omega | exact bnd_up (by assumption) (by omega) (by omega)) | fail "q8")) (va_cwSU 1 hts gJ4_charAt_5068e_J5_charAt_5068e_s329 rfl rfl rfl (by decide +kernel) ⟨Nat.le_of_ble_eq_true rfl, Nat.le_of_ble_eq_true rfl⟩) ⟨xB_blind, va_recv hK hP (ci := 1) (q0 := 0) rfl rfl, hpre _⟩ rfl rfl hl.1 rfl (lv_room (Nat.le_of_ble_eq_true rfl)) dJ4_charAt_5068e_2 ⟨Nat.le_of_ble_eq_true rfl, Nat.le_of_ble_eq_true rfl⟩) (fun (u : Unit) => [(aB, .inr (1, [.ref aV, .int (iI 0), .int (iI ml), .int (iI ct)])), (aV, .inl (gB g, cp, .inl (ar bf)))]) rfl rfl (by decide) (fun _ => rfl) rfl (fun u v_1 H locs hv_1 pv_1 hP hD hS => ?_)
    have hP : va_P (gD g) vwCl [(aB, .inr (1, [.ref aV, .int (iI 0), .int (iI ml), .int (iI ct)])), (aV, .inl (gB g, cp, .inl (ar bf)))] H := hP
    have hD : va_D A [(aB, .inr (1, [.ref aV, .int (iI 0), .int (iI ml), .int (iI ct)])), (aV, .inl (gB g, cp, .inl (ar bf)))] := hD
    have hv_1 : v_1 = bf ix := hv_1
    rw [hQ9]
    exact x_iret hx hb hr hlocks hP hD hS (S := Unit) (nar_c (by omega)) dJ4_charAt_5068e_5 () (by
        first
        | (
           first | rfl | omega | (subst_vars; first | rfl | omega))
        | fail "q9") trivial rfl (Nat.le_of_ble_eq_true rfl) (Nat.le_of_ble_eq_true rfl)
  rw [hH, hlo, hQ9] at goal_
  exact goal_

set_option maxHeartbeats 4000000 in
set_option maxRecDepth 100000 in
theorem c_J5_init_d00df (l : Launch) (g : xg) (sz : Nat) (aB : Nat) : Met l yJ5_init_d00df wsJ5_init_d00df { frames := 1, cells := 1, slots := 16, locals := 20 } (va_Pc [.ref aB, .int (iI 16)] (xB g [(aB, .inr (1, [.null, .int (iI 0), .int (iI 0), .int (iI 0)]))] sz)) (va_Qv (fun (u : Nat) => True) (fun u t => xE g (va_A [(aB, .inr (1, [.null, .int (iI 0), .int (iI 0), .int (iI 0)]))] sz) ((fun (u : Nat) => [(aB, .inr (1, [.ref u, .int (iI 0), .int (iI 0), .int (iI 0)])), (u, .inl (gB g, 16, .inl (ar (fun _ => 0))))]) u) t) (va_A [(aB, .inr (1, [.null, .int (iI 0), .int (iI 0), .int (iI 0)]))] sz)) 1 16 (va_A [(aB, .inr (1, [.null, .int (iI 0), .int (iI 0), .int (iI 0)]))] sz) := by
  refine x_enter (y := yJ5_init_d00df) (ws := wsJ5_init_d00df) (g := g) (sz := sz) (av := [.ref aB, .int (iI 16)]) (WS := [(aB, .inr (1, [.null, .int (iI 0), .int (iI 0), .int (iI 0)]))]) (cc := cJ5_init_d00df) (maxL := 2) (ret := none) (Qc := (fun A => (va_Qv (fun (u : Nat) => True) (fun u t => xE g A ((fun (u : Nat) => [(aB, .inr (1, [.ref u, .int (iI 0), .int (iI 0), .int (iI 0)])), (u, .inl (gB g, 16, .inl (ar (fun _ => 0))))]) u) t) A))) (by decide) rfl (Nat.le_of_ble_eq_true rfl) ?_
  intro p e s m args below meth c A ls hx hb hr hml hown hts hlocks hname hC hP hD hS hA hl
  have hK := hC.1
  have hown : s.vm.findClass RJ5 = some m.cls := hown
  have hinJ4 : ∀ w ∈ u_ws RJ4 TJ4 4, w ∈ wsJ5_init_d00df := by decide +kernel
  have hl : lv_has ls 2 [(0, .ref aB), (1, .int (iI 16))] := hl
  obtain ⟨H, hH⟩ : ∃ z, z = s.heap := ⟨_, rfl⟩
  obtain ⟨locs, hlo⟩ : ∃ z : List Loc, z = [] := ⟨_, rfl⟩
  obtain ⟨Q9, hQ9⟩ : ∃ z, z = MQ below (va_Qv (fun (u : Nat) => True) (fun u t => xE g A ((fun (u : Nat) => [(aB, .inr (1, [.ref u, .int (iI 0), .int (iI 0), .int (iI 0)])), (u, .inl (gB g, 16, .inl (ar (fun _ => 0))))]) u) t) A) args s 1 16 A := ⟨_, rfl⟩
  have hP : va_P (gD g) vwCl [(aB, .inr (1, [.null, .int (iI 0), .int (iI 0), .int (iI 0)]))] H := by rw [hH]; exact hP
  have hS : va_S A s.heap H locs := by rw [hH, hlo]; exact hS
  have goal_ : W p l e { frames := 1, cells := 1, slots := 16, locals := 20 } s m args below meth c H locs 0 0 Q9 (F0 m 0 ls []) := by
    clear hH hlo
    refine lv_aload_n hx hb dJ5_init_d00df_0 rfl (lv_at hl 0 rfl) ?_
    refine W.objInit hx hb hown (hts (.methodLink RJ5 3 objectInit) (List.mem_of_getElem? (i := 1) rfl)) (hts (.instanceMethod objectInit) (List.mem_of_getElem? (i := 2) rfl)) (hts _ (List.mem_of_getElem? (i := 3) rfl)) rfl (by rw [hml]; exact hl.1) rfl dJ5_init_d00df_1 (Nat.le_of_ble_eq_true rfl) (Nat.le_of_ble_eq_true rfl) ?_
    refine W.eq (g2 := F0 m 4 ls []) rfl ?_
    refine va_gets hx hb hC.d.1 hS hown (hts (.fieldLink RJ5 18 "java/lang/String" "COMPACT_STRINGS" "Z") (List.mem_of_getElem? (i := 4) rfl)) (fun _ h9 => h9) dJ5_init_d00df_4 ?_
    refine W.eq (g2 := F0 m 7 ls [.int (iI 1)]) rfl ?_
    refine x_if_eq (tgt := 25) hx hb (by omega) dJ5_init_d00df_7 (by decide) (fun c_1 => ?_) (fun c_1 => ?_)
    · skip
      exact absurd c_1 (by decide)
    · skip
      refine lv_aload_n hx hb dJ5_init_d00df_10 rfl (lv_at hl 0 rfl) ?_
      refine lv_iload_n hx hb dJ5_init_d00df_11 rfl (lv_at hl 1 rfl) ?_
      refine x_newB hx hb (hts (.arrayClass .byte) (List.mem_of_getElem? (i := 5) rfl)) hC hP hD hS hA (16) 16 (by omega) (by omega) (by omega) (Nat.le_of_ble_eq_true rfl) (Nat.le_of_ble_eq_true rfl) dJ5_init_d00df_12 (fun q_2 H hP hD hS => ?_)
      have hP : va_P (gD g) vwCl [(aB, .inr (1, [.null, .int (iI 0), .int (iI 0), .int (iI 0)])), (q_2, .inl (gB g, 16, .inl (ar (fun _ => 0))))] H := hP
      have hD : va_D A [(aB, .inr (1, [.null, .int (iI 0), .int (iI 0), .int (iI 0)])), (q_2, .inl (gB g, 16, .inl (ar (fun _ => 0))))] := hD
      refine va_put (D := gD g) (ci := 1) (v := .ref q_2) (ty := tyJ4 0) (C := RJ4) (T := TJ4) (N := 4) hx hb hts hinJ4 tyJ4 tyJ4_ok nmJ4 hown hK hP hD hS 0 rfl rfl 0 (by decide) (hts (.fieldLink RJ5 15 "java/lang/AbstractStringBuilder" "value" "[B") (List.mem_of_getElem? (i := 6) rfl)) (fun _ h9 => h9) rfl (tyJ4_ok 0 (by decide)) rfl rfl (Nat.le_of_ble_eq_true rfl) dJ5_init_d00df_14 (fun H locs hP hD hS => ?_)
      have hP : va_P (gD g) vwCl [(aB, .inr (1, [.ref q_2, .int (iI 0), .int (iI 0), .int (iI 0)])), (q_2, .inl (gB g, 16, .inl (ar (fun _ => 0))))] H := hP
      have hD : va_D A [(aB, .inr (1, [.ref q_2, .int (iI 0), .int (iI 0), .int (iI 0)])), (q_2, .inl (gB g, 16, .inl (ar (fun _ => 0))))] := hD
      refine lv_aload_n hx hb dJ5_init_d00df_17 rfl (lv_at hl 0 rfl) ?_
      refine x_iconst hx hb dJ5_init_d00df_18 ?_
      refine va_put (D := gD g) (ci := 1) (v := .int (iI 0)) (ty := tyJ4 1) (C := RJ4) (T := TJ4) (N := 4) hx hb hts hinJ4 tyJ4 tyJ4_ok nmJ4 hown hK hP hD hS 0 rfl rfl 1 (by decide) (hts (.fieldLink RJ5 22 "java/lang/AbstractStringBuilder" "coder" "B") (List.mem_of_getElem? (i := 7) rfl)) (fun _ h9 => h9) rfl (tyJ4_ok 1 (by decide)) rfl rfl (Nat.le_of_ble_eq_true rfl) dJ5_init_d00df_19 (fun H locs hP hD hS => ?_)
      have hP : va_P (gD g) vwCl [(aB, .inr (1, [.ref q_2, .int (iI 0), .int (iI 0), .int (iI 0)])), (q_2, .inl (gB g, 16, .inl (ar (fun _ => 0))))] H := hP
      have hD : va_D A [(aB, .inr (1, [.ref q_2, .int (iI 0), .int (iI 0), .int (iI 0)])), (q_2, .inl (gB g, 16, .inl (ar (fun _ => 0))))] := hD
      refine lv_goto (tgt := 38) hx hb dJ5_init_d00df_22 (by decide) ?_
      rw [hQ9]
      exact x_vret hx hb hr hlocks hP hD hS (S := Nat) (Φ := _) (W1 := _) dJ5_init_d00df_38 q_2 trivial rfl (Nat.le_of_ble_eq_true rfl) (Nat.le_of_ble_eq_true rfl)
  rw [hH, hlo, hQ9] at goal_
  exact goal_

set_option maxHeartbeats 4000000 in
set_option maxRecDepth 100000 in
theorem c_J4_init_da8c8 (l : Launch) (g : xg) (sz : Nat) (aB : Nat) : Met l yJ4_init_da8c8 wsJ4_init_da8c8 { frames := 2, cells := 1, slots := 16, locals := 41 } (va_Pc [.ref aB] (xB g [(aB, .inr (1, [.null, .int (iI 0), .int (iI 0), .int (iI 0)]))] sz)) (va_Qv (fun (u : Nat) => True) (fun u t => xE g (va_A [(aB, .inr (1, [.null, .int (iI 0), .int (iI 0), .int (iI 0)]))] sz) ((fun (u : Nat) => [(aB, .inr (1, [.ref u, .int (iI 0), .int (iI 0), .int (iI 0)])), (u, .inl (gB g, 16, .inl (ar (fun _ => 0))))]) u) t) (va_A [(aB, .inr (1, [.null, .int (iI 0), .int (iI 0), .int (iI 0)]))] sz)) 1 16 (va_A [(aB, .inr (1, [.null, .int (iI 0), .int (iI 0), .int (iI 0)]))] sz) := by
  refine x_enter (y := yJ4_init_da8c8) (ws := wsJ4_init_da8c8) (g := g) (sz := sz) (av := [.ref aB]) (WS := [(aB, .inr (1, [.null, .int (iI 0), .int (iI 0), .int (iI 0)]))]) (cc := cJ4_init_da8c8) (maxL := 1) (ret := none) (Qc := (fun A => (va_Qv (fun (u : Nat) => True) (fun u t => xE g A ((fun (u : Nat) => [(aB, .inr (1, [.ref u, .int (iI 0), .int (iI 0), .int (iI 0)])), (u, .inl (gB g, 16, .inl (ar (fun _ => 0))))]) u) t) A))) (by decide) rfl (Nat.le_of_ble_eq_true rfl) ?_
  intro p e s m args below meth c A ls hx hb hr hml hown hts hlocks hname hC hP hD hS hA hl
  have hK := hC.1
  have hown : s.vm.findClass RJ4 = some m.cls := hown
  have hl : lv_has ls 1 [(0, .ref aB)] := hl
  obtain ⟨H, hH⟩ : ∃ z, z = s.heap := ⟨_, rfl⟩
  obtain ⟨locs, hlo⟩ : ∃ z : List Loc, z = [] := ⟨_, rfl⟩
  obtain ⟨Q9, hQ9⟩ : ∃ z, z = MQ below (va_Qv (fun (u : Nat) => True) (fun u t => xE g A ((fun (u : Nat) => [(aB, .inr (1, [.ref u, .int (iI 0), .int (iI 0), .int (iI 0)])), (u, .inl (gB g, 16, .inl (ar (fun _ => 0))))]) u) t) A) args s 1 16 A := ⟨_, rfl⟩
  have hP : va_P (gD g) vwCl [(aB, .inr (1, [.null, .int (iI 0), .int (iI 0), .int (iI 0)]))] H := by rw [hH]; exact hP
  have hS : va_S A s.heap H locs := by rw [hH, hlo]; exact hS
  have goal_ : W p l e { frames := 2, cells := 1, slots := 16, locals := 41 } s m args below meth c H locs 0 0 Q9 (F0 m 0 ls []) := by
    clear hH hlo
    refine lv_aload_n hx hb dJ4_init_da8c8_0 rfl (lv_at hl 0 rfl) ?_
    refine x_bipush hx hb dJ4_init_da8c8_1 (by decide) ?_
    refine x_callv (S := Nat) (wc := [(aB, .inr (1, [.null, .int (iI 0), .int (iI 0), .int (iI 0)]))]) (wr := []) hC hP hD hS hA [0] [] [0, 1] rfl rfl (fun hpre => va_runI (As := [.int (iI 16)]) (rest := []) ⟨hx, hb, hml, hown, hts⟩ (c_J5_init_d00df l g H.size aB) (cwI 1 hts gJ4_init_da8c8_J5_init_d00df rfl rfl rfl (hts (.initialized RJ5) (List.mem_of_getElem? (i := 3) rfl)) (hts (.methodLink RJ4 1 yJ5_init_d00df) (List.mem_of_getElem? (i := 1) rfl)) (hts (.instanceMethod yJ5_init_d00df) (List.mem_of_getElem? (i := 2) rfl)) rfl (by decide +kernel) ⟨Nat.le_of_ble_eq_true rfl, Nat.le_of_ble_eq_true rfl⟩) ⟨xB_blind, hpre _⟩ rfl rfl hl.1 rfl (lv_room (Nat.le_of_ble_eq_true rfl)) dJ4_init_da8c8_3 ⟨Nat.le_of_ble_eq_true rfl, Nat.le_of_ble_eq_true rfl⟩) (fun (u : Nat) => [(aB, .inr (1, [.ref u, .int (iI 0), .int (iI 0), .int (iI 0)])), (u, .inl (gB g, 16, .inl (ar (fun _ => 0))))]) rfl rfl (by decide) (fun _ => rfl) rfl (fun u H locs hv_2 hP hD hS => ?_)
    obtain ⟨aV_1, rfl⟩ : ∃ z, z = u := ⟨_, rfl⟩
    have hP : va_P (gD g) vwCl [(aB, .inr (1, [.ref aV_1, .int (iI 0), .int (iI 0), .int (iI 0)])), (aV_1, .inl (gB g, 16, .inl (ar (fun _ => 0))))] H := hP
    have hD : va_D A [(aB, .inr (1, [.ref aV_1, .int (iI 0), .int (iI 0), .int (iI 0)])), (aV_1, .inl (gB g, 16, .inl (ar (fun _ => 0))))] := hD
    rw [hQ9]
    exact x_vret hx hb hr hlocks hP hD hS (S := Nat) (Φ := _) (W1 := _) dJ4_init_da8c8_6 aV_1 trivial rfl (Nat.le_of_ble_eq_true rfl) (Nat.le_of_ble_eq_true rfl)
  rw [hH, hlo, hQ9] at goal_
  exact goal_
