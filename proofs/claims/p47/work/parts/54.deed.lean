set_option maxHeartbeats 4000000 in
set_option maxRecDepth 100000 in
theorem c_L_isGround (l : Launch) (hflags : l.stackTraces = false) (g : xg) (sz : Nat) (aR aG aP aH aY aT aS aF aX aGn aGw aGs aN : Nat) (pr tk tol hou kn rgs nn nw : Int) (nd wk F : Int → Int) (hkn : 0 ≤ kn ∧ kn ≤ 200) (hF0 : F 0 = kn) (hrgs : 1 ≤ rgs ∧ rgs ≤ 50) (hnn : 0 ≤ nn ∧ nn ≤ 100) (hnw : 0 ≤ nw ∧ nw ≤ 20) : Met l yL_isGround wsL_isGround { frames := 9, cells := 4, slots := 24, locals := 161 } (va_Pc [.ref aR, .ref aN, .int (iI rgs), .int (iI nn), .int (iI nw)] (xB g [(aR, .inr (11, [.ref aG, .ref aP, .ref aH, .ref aY, .ref aT, .ref aS, .ref aF, .ref aX, .int (iI pr), .int (iI tk), .int (iI tol), .int (iI hou)])), (aG, .inr (4, [.ref aGn, .ref aGw, .ref aGs, .int (iI kn)])), (aGn, .inl (gI g, 200, .inl (ar nd))), (aGw, .inl (gI g, 200, .inl (ar wk))), (aN, .inl (gI g, 1960, .inl (ar F)))] sz)) (va_Qi (fun r u => r = iI ((fun (u : (Int → Int)) => bI (True)) u) ∧ (fun (u : (Int → Int)) => agr u (if agT kn rgs nn nw = 0 then grF F kn rgs nn nw else F)) u) (fun u t => xE g (va_A [(aR, .inr (11, [.ref aG, .ref aP, .ref aH, .ref aY, .ref aT, .ref aS, .ref aF, .ref aX, .int (iI pr), .int (iI tk), .int (iI tol), .int (iI hou)])), (aG, .inr (4, [.ref aGn, .ref aGw, .ref aGs, .int (iI kn)])), (aGn, .inl (gI g, 200, .inl (ar nd))), (aGw, .inl (gI g, 200, .inl (ar wk))), (aN, .inl (gI g, 1960, .inl (ar F)))] sz) ((fun (u : (Int → Int)) => [(aR, .inr (11, [.ref aG, .ref aP, .ref aH, .ref aY, .ref aT, .ref aS, .ref aF, .ref aX, .int (iI pr), .int (iI tk), .int (iI tol), .int (iI hou)])), (aG, .inr (4, [.ref aGn, .ref aGw, .ref aGs, .int (iI (if agT kn rgs nn nw = 0 then (kn + rgs) else kn))])), (aGn, .inl (gI g, 200, .inl (ar (if agT kn rgs nn nw = 0 then (fil nd kn (kn + rgs) nn) else nd)))), (aGw, .inl (gI g, 200, .inl (ar (if agT kn rgs nn nw = 0 then (fil wk kn (kn + rgs) nw) else wk)))), (aN, .inl (gI g, 1960, .inl (ar u)))]) u) t) (va_A [(aR, .inr (11, [.ref aG, .ref aP, .ref aH, .ref aY, .ref aT, .ref aS, .ref aF, .ref aX, .int (iI pr), .int (iI tk), .int (iI tol), .int (iI hou)])), (aG, .inr (4, [.ref aGn, .ref aGw, .ref aGs, .int (iI kn)])), (aGn, .inl (gI g, 200, .inl (ar nd))), (aGw, .inl (gI g, 200, .inl (ar wk))), (aN, .inl (gI g, 1960, .inl (ar F)))] sz)) 4 24 (va_A [(aR, .inr (11, [.ref aG, .ref aP, .ref aH, .ref aY, .ref aT, .ref aS, .ref aF, .ref aX, .int (iI pr), .int (iI tk), .int (iI tol), .int (iI hou)])), (aG, .inr (4, [.ref aGn, .ref aGw, .ref aGs, .int (iI kn)])), (aGn, .inl (gI g, 200, .inl (ar nd))), (aGw, .inl (gI g, 200, .inl (ar wk))), (aN, .inl (gI g, 1960, .inl (ar F)))] sz) := by
  refine x_enter (y := yL_isGround) (ws := wsL_isGround) (g := g) (sz := sz) (av := [.ref aR, .ref aN, .int (iI rgs), .int (iI nn), .int (iI nw)]) (WS := [(aR, .inr (11, [.ref aG, .ref aP, .ref aH, .ref aY, .ref aT, .ref aS, .ref aF, .ref aX, .int (iI pr), .int (iI tk), .int (iI tol), .int (iI hou)])), (aG, .inr (4, [.ref aGn, .ref aGw, .ref aGs, .int (iI kn)])), (aGn, .inl (gI g, 200, .inl (ar nd))), (aGw, .inl (gI g, 200, .inl (ar wk))), (aN, .inl (gI g, 1960, .inl (ar F)))]) (cc := cL_isGround) (maxL := 6) (ret := some .boolean) (Qc := (fun A => (va_Qi (fun r u => r = iI ((fun (u : (Int → Int)) => bI (True)) u) ∧ (fun (u : (Int → Int)) => agr u (if agT kn rgs nn nw = 0 then grF F kn rgs nn nw else F)) u) (fun u t => xE g A ((fun (u : (Int → Int)) => [(aR, .inr (11, [.ref aG, .ref aP, .ref aH, .ref aY, .ref aT, .ref aS, .ref aF, .ref aX, .int (iI pr), .int (iI tk), .int (iI tol), .int (iI hou)])), (aG, .inr (4, [.ref aGn, .ref aGw, .ref aGs, .int (iI (if agT kn rgs nn nw = 0 then (kn + rgs) else kn))])), (aGn, .inl (gI g, 200, .inl (ar (if agT kn rgs nn nw = 0 then (fil nd kn (kn + rgs) nn) else nd)))), (aGw, .inl (gI g, 200, .inl (ar (if agT kn rgs nn nw = 0 then (fil wk kn (kn + rgs) nw) else wk)))), (aN, .inl (gI g, 1960, .inl (ar u)))]) u) t) A))) (by decide) rfl (Nat.le_of_ble_eq_true rfl) ?_
  intro p e s m args below meth c A ls hx hb hr hml hown hts hlocks hname hC hP hD hS hA hl
  have hK := hC.1
  have hown : s.vm.findClass RL = some m.cls := hown
  have hl : lv_has ls 6 [(0, .ref aR), (1, .ref aN), (2, .int (iI rgs)), (3, .int (iI nn)), (4, .int (iI nw))] := hl
  obtain ⟨H, hH⟩ : ∃ z, z = s.heap := ⟨_, rfl⟩
  obtain ⟨locs, hlo⟩ : ∃ z : List Loc, z = [] := ⟨_, rfl⟩
  obtain ⟨Q9, hQ9⟩ : ∃ z, z = MQ below (va_Qi (fun r u => r = iI ((fun (u : (Int → Int)) => bI (True)) u) ∧ (fun (u : (Int → Int)) => agr u (if agT kn rgs nn nw = 0 then grF F kn rgs nn nw else F)) u) (fun u t => xE g A ((fun (u : (Int → Int)) => [(aR, .inr (11, [.ref aG, .ref aP, .ref aH, .ref aY, .ref aT, .ref aS, .ref aF, .ref aX, .int (iI pr), .int (iI tk), .int (iI tol), .int (iI hou)])), (aG, .inr (4, [.ref aGn, .ref aGw, .ref aGs, .int (iI (if agT kn rgs nn nw = 0 then (kn + rgs) else kn))])), (aGn, .inl (gI g, 200, .inl (ar (if agT kn rgs nn nw = 0 then (fil nd kn (kn + rgs) nn) else nd)))), (aGw, .inl (gI g, 200, .inl (ar (if agT kn rgs nn nw = 0 then (fil wk kn (kn + rgs) nw) else wk)))), (aN, .inl (gI g, 1960, .inl (ar u)))]) u) t) A) args s 4 24 A := ⟨_, rfl⟩
  have hP : va_P (gD g) vwCl [(aR, .inr (11, [.ref aG, .ref aP, .ref aH, .ref aY, .ref aT, .ref aS, .ref aF, .ref aX, .int (iI pr), .int (iI tk), .int (iI tol), .int (iI hou)])), (aG, .inr (4, [.ref aGn, .ref aGw, .ref aGs, .int (iI kn)])), (aGn, .inl (gI g, 200, .inl (ar nd))), (aGw, .inl (gI g, 200, .inl (ar wk))), (aN, .inl (gI g, 1960, .inl (ar F)))] H := by rw [hH]; exact hP
  have hS : va_S A s.heap H locs := by rw [hH, hlo]; exact hS
  have goal_ : W p l e { frames := 9, cells := 4, slots := 24, locals := 161 } s m args below meth c H locs 0 0 Q9 (F0 m 0 ls []) := by
    clear hH hlo
    refine lv_aload_n hx hb dL_isGround_0 rfl (lv_at hl 1 rfl) ?_
    refine x_iconst hx hb dL_isGround_1 ?_
    refine x_iald hx hb hK hP 4 0 rfl rfl (by omega) (by omega) (Nat.le_of_ble_eq_true rfl) dL_isGround_2 (fun v_1 hv_1 => ?_)
    refine x_top (show v_1 = kn by
        first
        | (
           omega)
        | fail "q9") ?_
    refine lv_iload_n hx hb dL_isGround_3 rfl (lv_at hl 2 rfl) ?_
    refine x_iadd hx hb dL_isGround_4 ?_
    refine x_sipush hx hb dL_isGround_5 (by decide) ?_
    refine x_cmp_le (tgt := 30) hx hb (by omega) (by omega) dL_isGround_8 (by decide) (fun c_2 => ?_) (fun c_2 => ?_)
    · skip
      refine x_iconst hx hb dL_isGround_30 ?_
      refine lv_istore (lv' := [(5, .int (iI 0)), (0, .ref aR), (1, .ref aN), (2, .int (iI rgs)), (3, .int (iI nn)), (4, .int (iI nw))]) hx hb dL_isGround_31 hl (by decide) rfl (fun ls hl => ?_)
      have lp33 : ∀ (n : Nat) (k1 : Int) (F1 : Int → Int), (0 ≤ k1 ∧ k1 ≤ rgs) → (F1 = grF F kn k1 nn nw) → rgs - k1 + 1 ≤ (n : Int) → ∀ (H : Heap) (locs : List Loc), va_P (gD g) vwCl [(aR, .inr (11, [.ref aG, .ref aP, .ref aH, .ref aY, .ref aT, .ref aS, .ref aF, .ref aX, .int (iI pr), .int (iI tk), .int (iI tol), .int (iI hou)])), (aG, .inr (4, [.ref aGn, .ref aGw, .ref aGs, .int (iI kn)])), (aGn, .inl (gI g, 200, .inl (ar nd))), (aGw, .inl (gI g, 200, .inl (ar wk))), (aN, .inl (gI g, 1960, .inl (ar F1)))] H → va_D A [(aR, .inr (11, [.ref aG, .ref aP, .ref aH, .ref aY, .ref aT, .ref aS, .ref aF, .ref aX, .int (iI pr), .int (iI tk), .int (iI tol), .int (iI hou)])), (aG, .inr (4, [.ref aGn, .ref aGw, .ref aGs, .int (iI kn)])), (aGn, .inl (gI g, 200, .inl (ar nd))), (aGw, .inl (gI g, 200, .inl (ar wk))), (aN, .inl (gI g, 1960, .inl (ar F1)))] → va_S A s.heap H locs → ∀ (ls : Array Slot), lv_has ls 6 [(5, .int (iI k1)), (0, .ref aR), (1, .ref aN), (2, .int (iI rgs)), (3, .int (iI nn)), (4, .int (iI nw))] → W p l e { frames := 9, cells := 4, slots := 24, locals := 161 } s m args below meth c H locs (0) (0) Q9 (F0 m 33 ls []) := by
        intro n
        induction n with
        | zero => intro k1 F1 hk1 hF1 hm; exfalso; omega
        | succ n ih33 =>
          intro k1 F1 hk1 hF1 hm H locs hP hD hS ls hl
          have z0 : F1 0 = kn + k1 := by rw [hF1]; simp only [grF, ↓reduceIte]
          refine lv_iload hx hb dL_isGround_33 (lv_at hl 0 rfl) ?_
          refine lv_iload_n hx hb dL_isGround_35 rfl (lv_at hl 3 rfl) ?_
          refine x_cmp_ge (tgt := 72) hx hb (by omega) (by omega) dL_isGround_36 (by decide) (fun c_3 => ?_) (fun c_3 => ?_)
          · skip
            have hT : agT kn rgs nn nw = 0 := by unfold agT; omega
            refine lv_aload_n hx hb dL_isGround_72 rfl (lv_at hl 1 rfl) ?_
            refine lv_iload_n hx hb dL_isGround_73 rfl (lv_at hl 3 rfl) ?_
            refine lv_iload_n hx hb dL_isGround_74 rfl (lv_at hl 4 rfl) ?_
            refine lv_iload hx hb dL_isGround_75 (lv_at hl 5 rfl) ?_
            refine x_calli (S := Unit) (wc := [(aR, .inr (11, [.ref aG, .ref aP, .ref aH, .ref aY, .ref aT, .ref aS, .ref aF, .ref aX, .int (iI pr), .int (iI tk), .int (iI tol), .int (iI hou)])), (aG, .inr (4, [.ref aGn, .ref aGw, .ref aGs, .int (iI kn)])), (aGn, .inl (gI g, 200, .inl (ar nd))), (aGw, .inl (gI g, 200, .inl (ar wk)))]) (wr := [(aN, .inl (gI g, 1960, .inl (ar F1)))]) hC hP hD hS hA [0, 1, 2, 3] [4] [1, 2, 3, 4, 0] rfl rfl (fun hpre => vx_runSW (As := [.ref aR, .int (iI rgs), .int (iI nn), .int (iI nw)]) (rest := []) ⟨hx, hb, hml, hown, hts⟩ (c_L_addGround l hflags g H.size aR aG aP aH aY aT aS aF aX aGn aGw aGs pr tk tol hou kn rgs nn nw nd wk (by first | (first | assumption | omega | exact bnd_up (by assumption) (by omega) (by omega)) | fail "q8") (by first | (first | assumption | omega | exact bnd_up (by assumption) (by omega) (by omega)) | fail "q8") (by first | (first | assumption | omega | exact bnd_up (by assumption) (by omega) (by omega)) | fail "q8") (by first | (first | assumption | omega | exact bnd_up (by assumption) (by omega) (by omega)) | fail "q8")) (vx_cwSW 4 hts gL_isGround_L_addGround rfl rfl rfl (by decide +kernel) ⟨Nat.le_of_ble_eq_true rfl, Nat.le_of_ble_eq_true rfl⟩) ⟨xB_blind, hpre _⟩ rfl rfl hl.1 rfl (lv_room (Nat.le_of_ble_eq_true rfl)) dL_isGround_77 ⟨Nat.le_of_ble_eq_true rfl, Nat.le_of_ble_eq_true rfl⟩) (fun (u : Unit) => [(aR, .inr (11, [.ref aG, .ref aP, .ref aH, .ref aY, .ref aT, .ref aS, .ref aF, .ref aX, .int (iI pr), .int (iI tk), .int (iI tol), .int (iI hou)])), (aG, .inr (4, [.ref aGn, .ref aGw, .ref aGs, .int (iI (if agT kn rgs nn nw = 0 then (kn + rgs) else kn))])), (aGn, .inl (gI g, 200, .inl (ar (if agT kn rgs nn nw = 0 then (fil nd kn (kn + rgs) nn) else nd)))), (aGw, .inl (gI g, 200, .inl (ar (if agT kn rgs nn nw = 0 then (fil wk kn (kn + rgs) nw) else wk)))), (aN, .inl (gI g, 1960, .inl (ar F1)))]) rfl rfl (by decide) (fun _ => rfl) rfl (fun u v_4 H locs hv_4 pv_4 hP hD hS => ?_)
            have hP : va_P (gD g) vwCl [(aR, .inr (11, [.ref aG, .ref aP, .ref aH, .ref aY, .ref aT, .ref aS, .ref aF, .ref aX, .int (iI pr), .int (iI tk), .int (iI tol), .int (iI hou)])), (aG, .inr (4, [.ref aGn, .ref aGw, .ref aGs, .int (iI (if agT kn rgs nn nw = 0 then (kn + rgs) else kn))])), (aGn, .inl (gI g, 200, .inl (ar (if agT kn rgs nn nw = 0 then (fil nd kn (kn + rgs) nn) else nd)))), (aGw, .inl (gI g, 200, .inl (ar (if agT kn rgs nn nw = 0 then (fil wk kn (kn + rgs) nw) else wk)))), (aN, .inl (gI g, 1960, .inl (ar F1)))] H := hP
            have hD : va_D A [(aR, .inr (11, [.ref aG, .ref aP, .ref aH, .ref aY, .ref aT, .ref aS, .ref aF, .ref aX, .int (iI pr), .int (iI tk), .int (iI tol), .int (iI hou)])), (aG, .inr (4, [.ref aGn, .ref aGw, .ref aGs, .int (iI (if agT kn rgs nn nw = 0 then (kn + rgs) else kn))])), (aGn, .inl (gI g, 200, .inl (ar (if agT kn rgs nn nw = 0 then (fil nd kn (kn + rgs) nn) else nd)))), (aGw, .inl (gI g, 200, .inl (ar (if agT kn rgs nn nw = 0 then (fil wk kn (kn + rgs) nw) else wk)))), (aN, .inl (gI g, 1960, .inl (ar F1)))] := hD
            have hv_4 : v_4 = (if agT kn rgs nn nw = 0 then kn + rgs else -900000 - agT kn rgs nn nw) := hv_4
            refine lv_aload_n hx hb dL_isGround_80 rfl (lv_at hl 2 rfl) ?_
            refine x_iconst hx hb dL_isGround_81 ?_
            refine x_iald hx hb hK hP 4 0 rfl rfl (by omega) (by omega) (Nat.le_of_ble_eq_true rfl) dL_isGround_82 (fun v_5 hv_5 => ?_)
            refine x_top (show v_5 = kn + rgs by
                first
                | (
                   omega)
                | fail "q9") ?_
            refine x_cmp_ne (tgt := 90) hx hb (by omega) (by omega) dL_isGround_83 (by decide) (fun c_6 => ?_) (fun c_6 => ?_)
            · skip
              exfalso
              first
              | (
                 omega)
              | fail "q9"
            · skip
              refine x_iconst hx hb dL_isGround_86 ?_
              refine lv_goto (tgt := 91) hx hb dL_isGround_87 (by decide) ?_
              rw [hQ9]
              exact x_iret hx hb hr hlocks hP hD hS (S := (Int → Int)) (by decide) dL_isGround_91 F1 (by
                  first
                  | (
                     exact (bI_t True.intro).symm)
                  | fail "q9") (by
                  first
                  | (
                     first | (rw [if_pos hT]; rw [hF1, show k1 = rgs by omega]; exact agr_r _) | (rw [if_neg (by omega)]; exact agr_r _))
                  | fail "q9") rfl (Nat.le_of_ble_eq_true rfl) (Nat.le_of_ble_eq_true rfl)
          · skip
            refine lv_aload_n hx hb dL_isGround_39 rfl (lv_at hl 2 rfl) ?_
            refine x_bipush hx hb dL_isGround_40 (by decide) ?_
            refine lv_aload_n hx hb dL_isGround_42 rfl (lv_at hl 2 rfl) ?_
            refine x_iconst hx hb dL_isGround_43 ?_
            refine x_iald hx hb hK hP 4 0 rfl rfl (by omega) (by omega) (Nat.le_of_ble_eq_true rfl) dL_isGround_44 (fun v_7 hv_7 => ?_)
            refine x_top (show v_7 = kn + k1 by
                first
                | (
                   omega)
                | fail "q9") ?_
            refine x_iadd hx hb dL_isGround_45 ?_
            refine lv_iload_n hx hb dL_isGround_46 rfl (lv_at hl 4 rfl) ?_
            refine x_iast hx hb hK hP hD hS 4 0 rfl rfl (by omega) (by omega) (Nat.le_of_ble_eq_true rfl) dL_isGround_47 (fun H locs hP hD hS => ?_)
            have hP : va_P (gD g) vwCl [(aR, .inr (11, [.ref aG, .ref aP, .ref aH, .ref aY, .ref aT, .ref aS, .ref aF, .ref aX, .int (iI pr), .int (iI tk), .int (iI tol), .int (iI hou)])), (aG, .inr (4, [.ref aGn, .ref aGw, .ref aGs, .int (iI kn)])), (aGn, .inl (gI g, 200, .inl (ar nd))), (aGw, .inl (gI g, 200, .inl (ar wk))), (aN, .inl (gI g, 1960, .inl (ar (up F1 (20 + (kn + k1)) nn))))] H := hP
            have hD : va_D A [(aR, .inr (11, [.ref aG, .ref aP, .ref aH, .ref aY, .ref aT, .ref aS, .ref aF, .ref aX, .int (iI pr), .int (iI tk), .int (iI tol), .int (iI hou)])), (aG, .inr (4, [.ref aGn, .ref aGw, .ref aGs, .int (iI kn)])), (aGn, .inl (gI g, 200, .inl (ar nd))), (aGw, .inl (gI g, 200, .inl (ar wk))), (aN, .inl (gI g, 1960, .inl (ar (up F1 (20 + (kn + k1)) nn))))] := hD
            refine lv_aload_n hx hb dL_isGround_48 rfl (lv_at hl 2 rfl) ?_
            refine x_sipush hx hb dL_isGround_49 (by decide) ?_
            refine lv_aload_n hx hb dL_isGround_52 rfl (lv_at hl 2 rfl) ?_
            refine x_iconst hx hb dL_isGround_53 ?_
            refine x_iald hx hb hK hP 4 0 rfl rfl (by omega) (by omega) (Nat.le_of_ble_eq_true rfl) dL_isGround_54 (fun v_8 hv_8 => ?_)
            (repeat (first | rw [up_at _ _ (by omega)] at hv_8 | rw [up_ne _ _ (by omega)] at hv_8))
            refine x_top (show v_8 = kn + k1 by
                first
                | (
                   omega)
                | fail "q9") ?_
            refine x_iadd hx hb dL_isGround_55 ?_
            refine lv_iload hx hb dL_isGround_56 (lv_at hl 5 rfl) ?_
            refine x_iast hx hb hK hP hD hS 4 0 rfl rfl (by omega) (by omega) (Nat.le_of_ble_eq_true rfl) dL_isGround_58 (fun H locs hP hD hS => ?_)
            have hP : va_P (gD g) vwCl [(aR, .inr (11, [.ref aG, .ref aP, .ref aH, .ref aY, .ref aT, .ref aS, .ref aF, .ref aX, .int (iI pr), .int (iI tk), .int (iI tol), .int (iI hou)])), (aG, .inr (4, [.ref aGn, .ref aGw, .ref aGs, .int (iI kn)])), (aGn, .inl (gI g, 200, .inl (ar nd))), (aGw, .inl (gI g, 200, .inl (ar wk))), (aN, .inl (gI g, 1960, .inl (ar (up (up F1 (20 + (kn + k1)) nn) (220 + (kn + k1)) nw))))] H := hP
            have hD : va_D A [(aR, .inr (11, [.ref aG, .ref aP, .ref aH, .ref aY, .ref aT, .ref aS, .ref aF, .ref aX, .int (iI pr), .int (iI tk), .int (iI tol), .int (iI hou)])), (aG, .inr (4, [.ref aGn, .ref aGw, .ref aGs, .int (iI kn)])), (aGn, .inl (gI g, 200, .inl (ar nd))), (aGw, .inl (gI g, 200, .inl (ar wk))), (aN, .inl (gI g, 1960, .inl (ar (up (up F1 (20 + (kn + k1)) nn) (220 + (kn + k1)) nw))))] := hD
            refine lv_aload_n hx hb dL_isGround_59 rfl (lv_at hl 2 rfl) ?_
            refine x_iconst hx hb dL_isGround_60 ?_
            refine lv_dup2_11 hx hb dL_isGround_61 rfl rfl ?_
            refine x_iald hx hb hK hP 4 0 rfl rfl (by omega) (by omega) (Nat.le_of_ble_eq_true rfl) dL_isGround_62 (fun v_9 hv_9 => ?_)
            (repeat (first | rw [up_at _ _ (by omega)] at hv_9 | rw [up_ne _ _ (by omega)] at hv_9))
            refine x_top (show v_9 = kn + k1 by
                first
                | (
                   omega)
                | fail "q9") ?_
            refine x_iconst hx hb dL_isGround_63 ?_
            refine x_iadd hx hb dL_isGround_64 ?_
            obtain ⟨v_10, ev_10⟩ : ∃ z : Int, z = (kn + k1) + 1 := ⟨_, rfl⟩
            refine x_top ev_10.symm ?_
            refine x_iast hx hb hK hP hD hS 4 0 rfl rfl (by omega) (by omega) (Nat.le_of_ble_eq_true rfl) dL_isGround_65 (fun H locs hP hD hS => ?_)
            have hP : va_P (gD g) vwCl [(aR, .inr (11, [.ref aG, .ref aP, .ref aH, .ref aY, .ref aT, .ref aS, .ref aF, .ref aX, .int (iI pr), .int (iI tk), .int (iI tol), .int (iI hou)])), (aG, .inr (4, [.ref aGn, .ref aGw, .ref aGs, .int (iI kn)])), (aGn, .inl (gI g, 200, .inl (ar nd))), (aGw, .inl (gI g, 200, .inl (ar wk))), (aN, .inl (gI g, 1960, .inl (ar (up (up (up F1 (20 + (kn + k1)) nn) (220 + (kn + k1)) nw) 0 v_10))))] H := hP
            have hD : va_D A [(aR, .inr (11, [.ref aG, .ref aP, .ref aH, .ref aY, .ref aT, .ref aS, .ref aF, .ref aX, .int (iI pr), .int (iI tk), .int (iI tol), .int (iI hou)])), (aG, .inr (4, [.ref aGn, .ref aGw, .ref aGs, .int (iI kn)])), (aGn, .inl (gI g, 200, .inl (ar nd))), (aGw, .inl (gI g, 200, .inl (ar wk))), (aN, .inl (gI g, 1960, .inl (ar (up (up (up F1 (20 + (kn + k1)) nn) (220 + (kn + k1)) nw) 0 v_10))))] := hD
            refine x_iinc (k := 0) (lv' := [(5, .int (iI (k1 + 1))), (0, .ref aR), (1, .ref aN), (2, .int (iI rgs)), (3, .int (iI nn)), (4, .int (iI nw))]) hx hb dL_isGround_66 hl rfl (by decide) rfl (fun ls hl => ?_)
            refine lv_goto (tgt := 33) hx hb dL_isGround_69 (by decide) ?_
            exact ih33 (k1 + 1) (up (up (up F1 (20 + (kn + k1)) nn) (220 + (kn + k1)) nw) 0 v_10) (show 0 ≤ (k1 + 1) ∧ (k1 + 1) ≤ rgs by
                first
                | (
                   first | assumption | omega | rfl)
                | fail "q9") (show (up (up (up F1 (20 + (kn + k1)) nn) (220 + (kn + k1)) nw) 0 v_10) = grF F kn (k1 + 1) nn nw by
                first
                | (
                   rw [hF1]
                   funext j
                   simp only [up, grF]
                   omega)
                | fail "q9") (by
                first
                | (
                   omega)
                | fail "q9") _ _ hP hD hS ls (lv_sub hl [0, 1, 2, 3, 4, 5] rfl)
      exact lp33 (rgs - 0 + 1 : Int).toNat 0 F (show 0 ≤ 0 ∧ 0 ≤ rgs by
          first
          | (
             first | assumption | omega | rfl)
          | fail "q9") (show F = grF F kn 0 nn nw by
          first
          | (
             funext j
             simp only [grF]
             by_cases q : j = 0
             · subst q; simp only [↓reduceIte]; omega
             · omega)
          | fail "q9") (by omega) _ _ hP hD hS ls (lv_sub hl [0, 1, 2, 3, 4, 5] rfl)
    · skip
      have hT : agT kn rgs nn nw = 2 := by unfold agT; omega
      refine lv_aload_n hx hb dL_isGround_11 rfl (lv_at hl 0 rfl) ?_
      refine lv_iload_n hx hb dL_isGround_12 rfl (lv_at hl 2 rfl) ?_
      refine lv_iload_n hx hb dL_isGround_13 rfl (lv_at hl 3 rfl) ?_
      refine lv_iload hx hb dL_isGround_14 (lv_at hl 4 rfl) ?_
      refine x_calli (S := Unit) (wc := [(aR, .inr (11, [.ref aG, .ref aP, .ref aH, .ref aY, .ref aT, .ref aS, .ref aF, .ref aX, .int (iI pr), .int (iI tk), .int (iI tol), .int (iI hou)])), (aG, .inr (4, [.ref aGn, .ref aGw, .ref aGs, .int (iI kn)])), (aGn, .inl (gI g, 200, .inl (ar nd))), (aGw, .inl (gI g, 200, .inl (ar wk)))]) (wr := [(aN, .inl (gI g, 1960, .inl (ar F)))]) hC hP hD hS hA [0, 1, 2, 3] [4] [1, 2, 3, 4, 0] rfl rfl (fun hpre => vx_runSW (As := [.ref aR, .int (iI rgs), .int (iI nn), .int (iI nw)]) (rest := []) ⟨hx, hb, hml, hown, hts⟩ (c_L_addGround l hflags g H.size aR aG aP aH aY aT aS aF aX aGn aGw aGs pr tk tol hou kn rgs nn nw nd wk (by first | (first | assumption | omega | exact bnd_up (by assumption) (by omega) (by omega)) | fail "q8") (by first | (first | assumption | omega | exact bnd_up (by assumption) (by omega) (by omega)) | fail "q8") (by first | (first | assumption | omega | exact bnd_up (by assumption) (by omega) (by omega)) | fail "q8") (by first | (first | assumption | omega | exact bnd_up (by assumption) (by omega) (by omega)) | fail "q8")) (vx_cwSW 4 hts gL_isGround_L_addGround rfl rfl rfl (by decide +kernel) ⟨Nat.le_of_ble_eq_true rfl, Nat.le_of_ble_eq_true rfl⟩) ⟨xB_blind, hpre _⟩ rfl rfl hl.1 rfl (lv_room (Nat.le_of_ble_eq_true rfl)) dL_isGround_16 ⟨Nat.le_of_ble_eq_true rfl, Nat.le_of_ble_eq_true rfl⟩) (fun (u : Unit) => [(aR, .inr (11, [.ref aG, .ref aP, .ref aH, .ref aY, .ref aT, .ref aS, .ref aF, .ref aX, .int (iI pr), .int (iI tk), .int (iI tol), .int (iI hou)])), (aG, .inr (4, [.ref aGn, .ref aGw, .ref aGs, .int (iI (if agT kn rgs nn nw = 0 then (kn + rgs) else kn))])), (aGn, .inl (gI g, 200, .inl (ar (if agT kn rgs nn nw = 0 then (fil nd kn (kn + rgs) nn) else nd)))), (aGw, .inl (gI g, 200, .inl (ar (if agT kn rgs nn nw = 0 then (fil wk kn (kn + rgs) nw) else wk)))), (aN, .inl (gI g, 1960, .inl (ar F)))]) rfl rfl (by decide) (fun _ => rfl) rfl (fun u v_11 H locs hv_11 pv_11 hP hD hS => ?_)
      have hP : va_P (gD g) vwCl [(aR, .inr (11, [.ref aG, .ref aP, .ref aH, .ref aY, .ref aT, .ref aS, .ref aF, .ref aX, .int (iI pr), .int (iI tk), .int (iI tol), .int (iI hou)])), (aG, .inr (4, [.ref aGn, .ref aGw, .ref aGs, .int (iI (if agT kn rgs nn nw = 0 then (kn + rgs) else kn))])), (aGn, .inl (gI g, 200, .inl (ar (if agT kn rgs nn nw = 0 then (fil nd kn (kn + rgs) nn) else nd)))), (aGw, .inl (gI g, 200, .inl (ar (if agT kn rgs nn nw = 0 then (fil wk kn (kn + rgs) nw) else wk)))), (aN, .inl (gI g, 1960, .inl (ar F)))] H := hP
      have hD : va_D A [(aR, .inr (11, [.ref aG, .ref aP, .ref aH, .ref aY, .ref aT, .ref aS, .ref aF, .ref aX, .int (iI pr), .int (iI tk), .int (iI tol), .int (iI hou)])), (aG, .inr (4, [.ref aGn, .ref aGw, .ref aGs, .int (iI (if agT kn rgs nn nw = 0 then (kn + rgs) else kn))])), (aGn, .inl (gI g, 200, .inl (ar (if agT kn rgs nn nw = 0 then (fil nd kn (kn + rgs) nn) else nd)))), (aGw, .inl (gI g, 200, .inl (ar (if agT kn rgs nn nw = 0 then (fil wk kn (kn + rgs) nw) else wk)))), (aN, .inl (gI g, 1960, .inl (ar F)))] := hD
      have hv_11 : v_11 = (if agT kn rgs nn nw = 0 then kn + rgs else -900000 - agT kn rgs nn nw) := hv_11
      refine x_ldc (v := -900002) hx hb hown (hts (.constant RL 20 (-900002)) (List.mem_of_getElem? (i := 1) rfl)) (by decide) dL_isGround_19 ?_
      refine x_cmp_ne (tgt := 28) hx hb (by omega) (by omega) dL_isGround_21 (by decide) (fun c_12 => ?_) (fun c_12 => ?_)
      · skip
        exfalso
        first
        | (
           omega)
        | fail "q9"
      · skip
        refine x_iconst hx hb dL_isGround_24 ?_
        refine lv_goto (tgt := 29) hx hb dL_isGround_25 (by decide) ?_
        rw [hQ9]
        exact x_iret hx hb hr hlocks hP hD hS (S := (Int → Int)) (by decide) dL_isGround_29 F (by
            first
            | (
               exact (bI_t True.intro).symm)
            | fail "q9") (by
            first
            | (
               first | (rw [if_pos hT]; rw [hF1, show k1 = rgs by omega]; exact agr_r _) | (rw [if_neg (by omega)]; exact agr_r _))
            | fail "q9") rfl (Nat.le_of_ble_eq_true rfl) (Nat.le_of_ble_eq_true rfl)
  rw [hH, hlo, hQ9] at goal_
  exact goal_

set_option maxHeartbeats 4000000 in
set_option maxRecDepth 100000 in
theorem c_L_isCurve (l : Launch) (hflags : l.stackTraces = false) (g : xg) (sz : Nat) (aR aG aP aH aY aT aS aF aX aPx aPy aN : Nat) (pr tk tol hou pn rgs nx ny : Int) (bx byy F : Int → Int) (hpn : 0 ≤ pn ∧ pn ≤ 200) (hF0 : F 1 = pn) (hrgs : 1 ≤ rgs ∧ rgs ≤ 50) (hnx : -5 ≤ nx ∧ nx ≤ 5) (hny : -5 ≤ ny ∧ ny ≤ 5) : Met l yL_isCurve wsL_isCurve { frames := 9, cells := 4, slots := 24, locals := 161 } (va_Pc [.ref aR, .ref aN, .int (iI rgs), .int (iI nx), .int (iI ny)] (xB g [(aR, .inr (11, [.ref aG, .ref aP, .ref aH, .ref aY, .ref aT, .ref aS, .ref aF, .ref aX, .int (iI pr), .int (iI tk), .int (iI tol), .int (iI hou)])), (aP, .inr (6, [.ref aPx, .ref aPy, .int (iI pn)])), (aPx, .inl (gI g, 200, .inl (ar bx))), (aPy, .inl (gI g, 200, .inl (ar byy))), (aN, .inl (gI g, 1960, .inl (ar F)))] sz)) (va_Qi (fun r u => r = iI ((fun (u : (Int → Int)) => bI (True)) u) ∧ (fun (u : (Int → Int)) => agr u (if acT pn rgs nx ny = 0 then crF F pn rgs nx ny else F)) u) (fun u t => xE g (va_A [(aR, .inr (11, [.ref aG, .ref aP, .ref aH, .ref aY, .ref aT, .ref aS, .ref aF, .ref aX, .int (iI pr), .int (iI tk), .int (iI tol), .int (iI hou)])), (aP, .inr (6, [.ref aPx, .ref aPy, .int (iI pn)])), (aPx, .inl (gI g, 200, .inl (ar bx))), (aPy, .inl (gI g, 200, .inl (ar byy))), (aN, .inl (gI g, 1960, .inl (ar F)))] sz) ((fun (u : (Int → Int)) => [(aR, .inr (11, [.ref aG, .ref aP, .ref aH, .ref aY, .ref aT, .ref aS, .ref aF, .ref aX, .int (iI pr), .int (iI tk), .int (iI tol), .int (iI hou)])), (aP, .inr (6, [.ref aPx, .ref aPy, .int (iI (if acT pn rgs nx ny = 0 then (pn + rgs) else pn))])), (aPx, .inl (gI g, 200, .inl (ar (if acT pn rgs nx ny = 0 then (fil bx pn (pn + rgs) nx) else bx)))), (aPy, .inl (gI g, 200, .inl (ar (if acT pn rgs nx ny = 0 then (fil byy pn (pn + rgs) ny) else byy)))), (aN, .inl (gI g, 1960, .inl (ar u)))]) u) t) (va_A [(aR, .inr (11, [.ref aG, .ref aP, .ref aH, .ref aY, .ref aT, .ref aS, .ref aF, .ref aX, .int (iI pr), .int (iI tk), .int (iI tol), .int (iI hou)])), (aP, .inr (6, [.ref aPx, .ref aPy, .int (iI pn)])), (aPx, .inl (gI g, 200, .inl (ar bx))), (aPy, .inl (gI g, 200, .inl (ar byy))), (aN, .inl (gI g, 1960, .inl (ar F)))] sz)) 4 24 (va_A [(aR, .inr (11, [.ref aG, .ref aP, .ref aH, .ref aY, .ref aT, .ref aS, .ref aF, .ref aX, .int (iI pr), .int (iI tk), .int (iI tol), .int (iI hou)])), (aP, .inr (6, [.ref aPx, .ref aPy, .int (iI pn)])), (aPx, .inl (gI g, 200, .inl (ar bx))), (aPy, .inl (gI g, 200, .inl (ar byy))), (aN, .inl (gI g, 1960, .inl (ar F)))] sz) := by
  refine x_enter (y := yL_isCurve) (ws := wsL_isCurve) (g := g) (sz := sz) (av := [.ref aR, .ref aN, .int (iI rgs), .int (iI nx), .int (iI ny)]) (WS := [(aR, .inr (11, [.ref aG, .ref aP, .ref aH, .ref aY, .ref aT, .ref aS, .ref aF, .ref aX, .int (iI pr), .int (iI tk), .int (iI tol), .int (iI hou)])), (aP, .inr (6, [.ref aPx, .ref aPy, .int (iI pn)])), (aPx, .inl (gI g, 200, .inl (ar bx))), (aPy, .inl (gI g, 200, .inl (ar byy))), (aN, .inl (gI g, 1960, .inl (ar F)))]) (cc := cL_isCurve) (maxL := 6) (ret := some .boolean) (Qc := (fun A => (va_Qi (fun r u => r = iI ((fun (u : (Int → Int)) => bI (True)) u) ∧ (fun (u : (Int → Int)) => agr u (if acT pn rgs nx ny = 0 then crF F pn rgs nx ny else F)) u) (fun u t => xE g A ((fun (u : (Int → Int)) => [(aR, .inr (11, [.ref aG, .ref aP, .ref aH, .ref aY, .ref aT, .ref aS, .ref aF, .ref aX, .int (iI pr), .int (iI tk), .int (iI tol), .int (iI hou)])), (aP, .inr (6, [.ref aPx, .ref aPy, .int (iI (if acT pn rgs nx ny = 0 then (pn + rgs) else pn))])), (aPx, .inl (gI g, 200, .inl (ar (if acT pn rgs nx ny = 0 then (fil bx pn (pn + rgs) nx) else bx)))), (aPy, .inl (gI g, 200, .inl (ar (if acT pn rgs nx ny = 0 then (fil byy pn (pn + rgs) ny) else byy)))), (aN, .inl (gI g, 1960, .inl (ar u)))]) u) t) A))) (by decide) rfl (Nat.le_of_ble_eq_true rfl) ?_
  intro p e s m args below meth c A ls hx hb hr hml hown hts hlocks hname hC hP hD hS hA hl
  have hK := hC.1
  have hown : s.vm.findClass RL = some m.cls := hown
  have hl : lv_has ls 6 [(0, .ref aR), (1, .ref aN), (2, .int (iI rgs)), (3, .int (iI nx)), (4, .int (iI ny))] := hl
  obtain ⟨H, hH⟩ : ∃ z, z = s.heap := ⟨_, rfl⟩
  obtain ⟨locs, hlo⟩ : ∃ z : List Loc, z = [] := ⟨_, rfl⟩
  obtain ⟨Q9, hQ9⟩ : ∃ z, z = MQ below (va_Qi (fun r u => r = iI ((fun (u : (Int → Int)) => bI (True)) u) ∧ (fun (u : (Int → Int)) => agr u (if acT pn rgs nx ny = 0 then crF F pn rgs nx ny else F)) u) (fun u t => xE g A ((fun (u : (Int → Int)) => [(aR, .inr (11, [.ref aG, .ref aP, .ref aH, .ref aY, .ref aT, .ref aS, .ref aF, .ref aX, .int (iI pr), .int (iI tk), .int (iI tol), .int (iI hou)])), (aP, .inr (6, [.ref aPx, .ref aPy, .int (iI (if acT pn rgs nx ny = 0 then (pn + rgs) else pn))])), (aPx, .inl (gI g, 200, .inl (ar (if acT pn rgs nx ny = 0 then (fil bx pn (pn + rgs) nx) else bx)))), (aPy, .inl (gI g, 200, .inl (ar (if acT pn rgs nx ny = 0 then (fil byy pn (pn + rgs) ny) else byy)))), (aN, .inl (gI g, 1960, .inl (ar u)))]) u) t) A) args s 4 24 A := ⟨_, rfl⟩
  have hP : va_P (gD g) vwCl [(aR, .inr (11, [.ref aG, .ref aP, .ref aH, .ref aY, .ref aT, .ref aS, .ref aF, .ref aX, .int (iI pr), .int (iI tk), .int (iI tol), .int (iI hou)])), (aP, .inr (6, [.ref aPx, .ref aPy, .int (iI pn)])), (aPx, .inl (gI g, 200, .inl (ar bx))), (aPy, .inl (gI g, 200, .inl (ar byy))), (aN, .inl (gI g, 1960, .inl (ar F)))] H := by rw [hH]; exact hP
  have hS : va_S A s.heap H locs := by rw [hH, hlo]; exact hS
  have goal_ : W p l e { frames := 9, cells := 4, slots := 24, locals := 161 } s m args below meth c H locs 0 0 Q9 (F0 m 0 ls []) := by
    clear hH hlo
    refine lv_aload_n hx hb dL_isCurve_0 rfl (lv_at hl 1 rfl) ?_
    refine x_iconst hx hb dL_isCurve_1 ?_
    refine x_iald hx hb hK hP 4 0 rfl rfl (by omega) (by omega) (Nat.le_of_ble_eq_true rfl) dL_isCurve_2 (fun v_1 hv_1 => ?_)
    refine x_top (show v_1 = pn by
        first
        | (
           omega)
        | fail "q9") ?_
    refine lv_iload_n hx hb dL_isCurve_3 rfl (lv_at hl 2 rfl) ?_
    refine x_iadd hx hb dL_isCurve_4 ?_
    refine x_sipush hx hb dL_isCurve_5 (by decide) ?_
    refine x_cmp_le (tgt := 30) hx hb (by omega) (by omega) dL_isCurve_8 (by decide) (fun c_2 => ?_) (fun c_2 => ?_)
    · skip
      refine x_iconst hx hb dL_isCurve_30 ?_
      refine lv_istore (lv' := [(5, .int (iI 0)), (0, .ref aR), (1, .ref aN), (2, .int (iI rgs)), (3, .int (iI nx)), (4, .int (iI ny))]) hx hb dL_isCurve_31 hl (by decide) rfl (fun ls hl => ?_)
      have lp33 : ∀ (n : Nat) (k1 : Int) (F1 : Int → Int), (0 ≤ k1 ∧ k1 ≤ rgs) → (F1 = crF F pn k1 nx ny) → rgs - k1 + 1 ≤ (n : Int) → ∀ (H : Heap) (locs : List Loc), va_P (gD g) vwCl [(aR, .inr (11, [.ref aG, .ref aP, .ref aH, .ref aY, .ref aT, .ref aS, .ref aF, .ref aX, .int (iI pr), .int (iI tk), .int (iI tol), .int (iI hou)])), (aP, .inr (6, [.ref aPx, .ref aPy, .int (iI pn)])), (aPx, .inl (gI g, 200, .inl (ar bx))), (aPy, .inl (gI g, 200, .inl (ar byy))), (aN, .inl (gI g, 1960, .inl (ar F1)))] H → va_D A [(aR, .inr (11, [.ref aG, .ref aP, .ref aH, .ref aY, .ref aT, .ref aS, .ref aF, .ref aX, .int (iI pr), .int (iI tk), .int (iI tol), .int (iI hou)])), (aP, .inr (6, [.ref aPx, .ref aPy, .int (iI pn)])), (aPx, .inl (gI g, 200, .inl (ar bx))), (aPy, .inl (gI g, 200, .inl (ar byy))), (aN, .inl (gI g, 1960, .inl (ar F1)))] → va_S A s.heap H locs → ∀ (ls : Array Slot), lv_has ls 6 [(5, .int (iI k1)), (0, .ref aR), (1, .ref aN), (2, .int (iI rgs)), (3, .int (iI nx)), (4, .int (iI ny))] → W p l e { frames := 9, cells := 4, slots := 24, locals := 161 } s m args below meth c H locs (0) (0) Q9 (F0 m 33 ls []) := by
        intro n
        induction n with
        | zero => intro k1 F1 hk1 hF1 hm; exfalso; omega
        | succ n ih33 =>
          intro k1 F1 hk1 hF1 hm H locs hP hD hS ls hl
          have z0 : F1 1 = pn + k1 := by rw [hF1]; simp only [crF, ↓reduceIte]
          refine lv_iload hx hb dL_isCurve_33 (lv_at hl 0 rfl) ?_
          refine lv_iload_n hx hb dL_isCurve_35 rfl (lv_at hl 3 rfl) ?_
          refine x_cmp_ge (tgt := 73) hx hb (by omega) (by omega) dL_isCurve_36 (by decide) (fun c_3 => ?_) (fun c_3 => ?_)
          · skip
            have hT : acT pn rgs nx ny = 0 := by unfold acT; omega
            refine lv_aload_n hx hb dL_isCurve_73 rfl (lv_at hl 1 rfl) ?_
            refine lv_iload_n hx hb dL_isCurve_74 rfl (lv_at hl 3 rfl) ?_
            refine lv_iload_n hx hb dL_isCurve_75 rfl (lv_at hl 4 rfl) ?_
            refine lv_iload hx hb dL_isCurve_76 (lv_at hl 5 rfl) ?_
            refine x_calli (S := Unit) (wc := [(aR, .inr (11, [.ref aG, .ref aP, .ref aH, .ref aY, .ref aT, .ref aS, .ref aF, .ref aX, .int (iI pr), .int (iI tk), .int (iI tol), .int (iI hou)])), (aP, .inr (6, [.ref aPx, .ref aPy, .int (iI pn)])), (aPx, .inl (gI g, 200, .inl (ar bx))), (aPy, .inl (gI g, 200, .inl (ar byy)))]) (wr := [(aN, .inl (gI g, 1960, .inl (ar F1)))]) hC hP hD hS hA [0, 1, 2, 3] [4] [1, 2, 3, 4, 0] rfl rfl (fun hpre => vx_runSW (As := [.ref aR, .int (iI rgs), .int (iI nx), .int (iI ny)]) (rest := []) ⟨hx, hb, hml, hown, hts⟩ (c_L_addCurve l hflags g H.size aR aG aP aH aY aT aS aF aX aPx aPy pr tk tol hou pn rgs nx ny bx byy (by first | (first | assumption | omega | exact bnd_up (by assumption) (by omega) (by omega)) | fail "q8") (by first | (first | assumption | omega | exact bnd_up (by assumption) (by omega) (by omega)) | fail "q8") (by first | (first | assumption | omega | exact bnd_up (by assumption) (by omega) (by omega)) | fail "q8") (by first | (first | assumption | omega | exact bnd_up (by assumption) (by omega) (by omega)) | fail "q8")) (vx_cwSW 4 hts gL_isCurve_L_addCurve rfl rfl rfl (by decide +kernel) ⟨Nat.le_of_ble_eq_true rfl, Nat.le_of_ble_eq_true rfl⟩) ⟨xB_blind, hpre _⟩ rfl rfl hl.1 rfl (lv_room (Nat.le_of_ble_eq_true rfl)) dL_isCurve_78 ⟨Nat.le_of_ble_eq_true rfl, Nat.le_of_ble_eq_true rfl⟩) (fun (u : Unit) => [(aR, .inr (11, [.ref aG, .ref aP, .ref aH, .ref aY, .ref aT, .ref aS, .ref aF, .ref aX, .int (iI pr), .int (iI tk), .int (iI tol), .int (iI hou)])), (aP, .inr (6, [.ref aPx, .ref aPy, .int (iI (if acT pn rgs nx ny = 0 then (pn + rgs) else pn))])), (aPx, .inl (gI g, 200, .inl (ar (if acT pn rgs nx ny = 0 then (fil bx pn (pn + rgs) nx) else bx)))), (aPy, .inl (gI g, 200, .inl (ar (if acT pn rgs nx ny = 0 then (fil byy pn (pn + rgs) ny) else byy)))), (aN, .inl (gI g, 1960, .inl (ar F1)))]) rfl rfl (by decide) (fun _ => rfl) rfl (fun u v_4 H locs hv_4 pv_4 hP hD hS => ?_)
            have hP : va_P (gD g) vwCl [(aR, .inr (11, [.ref aG, .ref aP, .ref aH, .ref aY, .ref aT, .ref aS, .ref aF, .ref aX, .int (iI pr), .int (iI tk), .int (iI tol), .int (iI hou)])), (aP, .inr (6, [.ref aPx, .ref aPy, .int (iI (if acT pn rgs nx ny = 0 then (pn + rgs) else pn))])), (aPx, .inl (gI g, 200, .inl (ar (if acT pn rgs nx ny = 0 then (fil bx pn (pn + rgs) nx) else bx)))), (aPy, .inl (gI g, 200, .inl (ar (if acT pn rgs nx ny = 0 then (fil byy pn (pn + rgs) ny) else byy)))), (aN, .inl (gI g, 1960, .inl (ar F1)))] H := hP
            have hD : va_D A [(aR, .inr (11, [.ref aG, .ref aP, .ref aH, .ref aY, .ref aT, .ref aS, .ref aF, .ref aX, .int (iI pr), .int (iI tk), .int (iI tol), .int (iI hou)])), (aP, .inr (6, [.ref aPx, .ref aPy, .int (iI (if acT pn rgs nx ny = 0 then (pn + rgs) else pn))])), (aPx, .inl (gI g, 200, .inl (ar (if acT pn rgs nx ny = 0 then (fil bx pn (pn + rgs) nx) else bx)))), (aPy, .inl (gI g, 200, .inl (ar (if acT pn rgs nx ny = 0 then (fil byy pn (pn + rgs) ny) else byy)))), (aN, .inl (gI g, 1960, .inl (ar F1)))] := hD
            have hv_4 : v_4 = (if acT pn rgs nx ny = 0 then pn + rgs else -900000 - acT pn rgs nx ny) := hv_4
            refine lv_aload_n hx hb dL_isCurve_81 rfl (lv_at hl 2 rfl) ?_
            refine x_iconst hx hb dL_isCurve_82 ?_
            refine x_iald hx hb hK hP 4 0 rfl rfl (by omega) (by omega) (Nat.le_of_ble_eq_true rfl) dL_isCurve_83 (fun v_5 hv_5 => ?_)
            refine x_top (show v_5 = pn + rgs by
                first
                | (
                   omega)
                | fail "q9") ?_
            refine x_cmp_ne (tgt := 91) hx hb (by omega) (by omega) dL_isCurve_84 (by decide) (fun c_6 => ?_) (fun c_6 => ?_)
            · skip
              exfalso
              first
              | (
                 omega)
              | fail "q9"
            · skip
              refine x_iconst hx hb dL_isCurve_87 ?_
              refine lv_goto (tgt := 92) hx hb dL_isCurve_88 (by decide) ?_
              rw [hQ9]
              exact x_iret hx hb hr hlocks hP hD hS (S := (Int → Int)) (by decide) dL_isCurve_92 F1 (by
                  first
                  | (
                     exact (bI_t True.intro).symm)
                  | fail "q9") (by
                  first
                  | (
                     first | (rw [if_pos hT]; rw [hF1, show k1 = rgs by omega]; exact agr_r _) | (rw [if_neg (by omega)]; exact agr_r _))
                  | fail "q9") rfl (Nat.le_of_ble_eq_true rfl) (Nat.le_of_ble_eq_true rfl)
          · skip
            refine lv_aload_n hx hb dL_isCurve_39 rfl (lv_at hl 2 rfl) ?_
            refine x_sipush hx hb dL_isCurve_40 (by decide) ?_
            refine lv_aload_n hx hb dL_isCurve_43 rfl (lv_at hl 2 rfl) ?_
            refine x_iconst hx hb dL_isCurve_44 ?_
            refine x_iald hx hb hK hP 4 0 rfl rfl (by omega) (by omega) (Nat.le_of_ble_eq_true rfl) dL_isCurve_45 (fun v_7 hv_7 => ?_)
            refine x_top (show v_7 = pn + k1 by
                first
                | (
                   omega)
                | fail "q9") ?_
            refine x_iadd hx hb dL_isCurve_46 ?_
            refine lv_iload_n hx hb dL_isCurve_47 rfl (lv_at hl 4 rfl) ?_
            refine x_iast hx hb hK hP hD hS 4 0 rfl rfl (by omega) (by omega) (Nat.le_of_ble_eq_true rfl) dL_isCurve_48 (fun H locs hP hD hS => ?_)
            have hP : va_P (gD g) vwCl [(aR, .inr (11, [.ref aG, .ref aP, .ref aH, .ref aY, .ref aT, .ref aS, .ref aF, .ref aX, .int (iI pr), .int (iI tk), .int (iI tol), .int (iI hou)])), (aP, .inr (6, [.ref aPx, .ref aPy, .int (iI pn)])), (aPx, .inl (gI g, 200, .inl (ar bx))), (aPy, .inl (gI g, 200, .inl (ar byy))), (aN, .inl (gI g, 1960, .inl (ar (up F1 (420 + (pn + k1)) nx))))] H := hP
            have hD : va_D A [(aR, .inr (11, [.ref aG, .ref aP, .ref aH, .ref aY, .ref aT, .ref aS, .ref aF, .ref aX, .int (iI pr), .int (iI tk), .int (iI tol), .int (iI hou)])), (aP, .inr (6, [.ref aPx, .ref aPy, .int (iI pn)])), (aPx, .inl (gI g, 200, .inl (ar bx))), (aPy, .inl (gI g, 200, .inl (ar byy))), (aN, .inl (gI g, 1960, .inl (ar (up F1 (420 + (pn + k1)) nx))))] := hD
            refine lv_aload_n hx hb dL_isCurve_49 rfl (lv_at hl 2 rfl) ?_
            refine x_sipush hx hb dL_isCurve_50 (by decide) ?_
            refine lv_aload_n hx hb dL_isCurve_53 rfl (lv_at hl 2 rfl) ?_
            refine x_iconst hx hb dL_isCurve_54 ?_
            refine x_iald hx hb hK hP 4 0 rfl rfl (by omega) (by omega) (Nat.le_of_ble_eq_true rfl) dL_isCurve_55 (fun v_8 hv_8 => ?_)
            (repeat (first | rw [up_at _ _ (by omega)] at hv_8 | rw [up_ne _ _ (by omega)] at hv_8))
            refine x_top (show v_8 = pn + k1 by
                first
                | (
                   omega)
                | fail "q9") ?_
            refine x_iadd hx hb dL_isCurve_56 ?_
            refine lv_iload hx hb dL_isCurve_57 (lv_at hl 5 rfl) ?_
            refine x_iast hx hb hK hP hD hS 4 0 rfl rfl (by omega) (by omega) (Nat.le_of_ble_eq_true rfl) dL_isCurve_59 (fun H locs hP hD hS => ?_)
            have hP : va_P (gD g) vwCl [(aR, .inr (11, [.ref aG, .ref aP, .ref aH, .ref aY, .ref aT, .ref aS, .ref aF, .ref aX, .int (iI pr), .int (iI tk), .int (iI tol), .int (iI hou)])), (aP, .inr (6, [.ref aPx, .ref aPy, .int (iI pn)])), (aPx, .inl (gI g, 200, .inl (ar bx))), (aPy, .inl (gI g, 200, .inl (ar byy))), (aN, .inl (gI g, 1960, .inl (ar (up (up F1 (420 + (pn + k1)) nx) (620 + (pn + k1)) ny))))] H := hP
            have hD : va_D A [(aR, .inr (11, [.ref aG, .ref aP, .ref aH, .ref aY, .ref aT, .ref aS, .ref aF, .ref aX, .int (iI pr), .int (iI tk), .int (iI tol), .int (iI hou)])), (aP, .inr (6, [.ref aPx, .ref aPy, .int (iI pn)])), (aPx, .inl (gI g, 200, .inl (ar bx))), (aPy, .inl (gI g, 200, .inl (ar byy))), (aN, .inl (gI g, 1960, .inl (ar (up (up F1 (420 + (pn + k1)) nx) (620 + (pn + k1)) ny))))] := hD
            refine lv_aload_n hx hb dL_isCurve_60 rfl (lv_at hl 2 rfl) ?_
            refine x_iconst hx hb dL_isCurve_61 ?_
            refine lv_dup2_11 hx hb dL_isCurve_62 rfl rfl ?_
            refine x_iald hx hb hK hP 4 0 rfl rfl (by omega) (by omega) (Nat.le_of_ble_eq_true rfl) dL_isCurve_63 (fun v_9 hv_9 => ?_)
            (repeat (first | rw [up_at _ _ (by omega)] at hv_9 | rw [up_ne _ _ (by omega)] at hv_9))
            refine x_top (show v_9 = pn + k1 by
                first
                | (
                   omega)
                | fail "q9") ?_
            refine x_iconst hx hb dL_isCurve_64 ?_
            refine x_iadd hx hb dL_isCurve_65 ?_
            obtain ⟨v_10, ev_10⟩ : ∃ z : Int, z = (pn + k1) + 1 := ⟨_, rfl⟩
            refine x_top ev_10.symm ?_
            refine x_iast hx hb hK hP hD hS 4 0 rfl rfl (by omega) (by omega) (Nat.le_of_ble_eq_true rfl) dL_isCurve_66 (fun H locs hP hD hS => ?_)
            have hP : va_P (gD g) vwCl [(aR, .inr (11, [.ref aG, .ref aP, .ref aH, .ref aY, .ref aT, .ref aS, .ref aF, .ref aX, .int (iI pr), .int (iI tk), .int (iI tol), .int (iI hou)])), (aP, .inr (6, [.ref aPx, .ref aPy, .int (iI pn)])), (aPx, .inl (gI g, 200, .inl (ar bx))), (aPy, .inl (gI g, 200, .inl (ar byy))), (aN, .inl (gI g, 1960, .inl (ar (up (up (up F1 (420 + (pn + k1)) nx) (620 + (pn + k1)) ny) 1 v_10))))] H := hP
            have hD : va_D A [(aR, .inr (11, [.ref aG, .ref aP, .ref aH, .ref aY, .ref aT, .ref aS, .ref aF, .ref aX, .int (iI pr), .int (iI tk), .int (iI tol), .int (iI hou)])), (aP, .inr (6, [.ref aPx, .ref aPy, .int (iI pn)])), (aPx, .inl (gI g, 200, .inl (ar bx))), (aPy, .inl (gI g, 200, .inl (ar byy))), (aN, .inl (gI g, 1960, .inl (ar (up (up (up F1 (420 + (pn + k1)) nx) (620 + (pn + k1)) ny) 1 v_10))))] := hD
            refine x_iinc (k := 0) (lv' := [(5, .int (iI (k1 + 1))), (0, .ref aR), (1, .ref aN), (2, .int (iI rgs)), (3, .int (iI nx)), (4, .int (iI ny))]) hx hb dL_isCurve_67 hl rfl (by decide) rfl (fun ls hl => ?_)
            refine lv_goto (tgt := 33) hx hb dL_isCurve_70 (by decide) ?_
            exact ih33 (k1 + 1) (up (up (up F1 (420 + (pn + k1)) nx) (620 + (pn + k1)) ny) 1 v_10) (show 0 ≤ (k1 + 1) ∧ (k1 + 1) ≤ rgs by
                first
                | (
                   first | assumption | omega | rfl)
                | fail "q9") (show (up (up (up F1 (420 + (pn + k1)) nx) (620 + (pn + k1)) ny) 1 v_10) = crF F pn (k1 + 1) nx ny by
                first
                | (
                   rw [hF1]
                   funext j
                   simp only [up, crF]
                   omega)
                | fail "q9") (by
                first
                | (
                   omega)
                | fail "q9") _ _ hP hD hS ls (lv_sub hl [0, 1, 2, 3, 4, 5] rfl)
      exact lp33 (rgs - 0 + 1 : Int).toNat 0 F (show 0 ≤ 0 ∧ 0 ≤ rgs by
          first
          | (
             first | assumption | omega | rfl)
          | fail "q9") (show F = crF F pn 0 nx ny by
          first
          | (
             funext j
             simp only [crF]
             by_cases q : j = 1
             · subst q; simp only [↓reduceIte]; omega
             · omega)
          | fail "q9") (by omega) _ _ hP hD hS ls (lv_sub hl [0, 1, 2, 3, 4, 5] rfl)
    · skip
      have hT : acT pn rgs nx ny = 2 := by unfold acT; omega
      refine lv_aload_n hx hb dL_isCurve_11 rfl (lv_at hl 0 rfl) ?_
      refine lv_iload_n hx hb dL_isCurve_12 rfl (lv_at hl 2 rfl) ?_
      refine lv_iload_n hx hb dL_isCurve_13 rfl (lv_at hl 3 rfl) ?_
      refine lv_iload hx hb dL_isCurve_14 (lv_at hl 4 rfl) ?_
      refine x_calli (S := Unit) (wc := [(aR, .inr (11, [.ref aG, .ref aP, .ref aH, .ref aY, .ref aT, .ref aS, .ref aF, .ref aX, .int (iI pr), .int (iI tk), .int (iI tol), .int (iI hou)])), (aP, .inr (6, [.ref aPx, .ref aPy, .int (iI pn)])), (aPx, .inl (gI g, 200, .inl (ar bx))), (aPy, .inl (gI g, 200, .inl (ar byy)))]) (wr := [(aN, .inl (gI g, 1960, .inl (ar F)))]) hC hP hD hS hA [0, 1, 2, 3] [4] [1, 2, 3, 4, 0] rfl rfl (fun hpre => vx_runSW (As := [.ref aR, .int (iI rgs), .int (iI nx), .int (iI ny)]) (rest := []) ⟨hx, hb, hml, hown, hts⟩ (c_L_addCurve l hflags g H.size aR aG aP aH aY aT aS aF aX aPx aPy pr tk tol hou pn rgs nx ny bx byy (by first | (first | assumption | omega | exact bnd_up (by assumption) (by omega) (by omega)) | fail "q8") (by first | (first | assumption | omega | exact bnd_up (by assumption) (by omega) (by omega)) | fail "q8") (by first | (first | assumption | omega | exact bnd_up (by assumption) (by omega) (by omega)) | fail "q8") (by first | (first | assumption | omega | exact bnd_up (by assumption) (by omega) (by omega)) | fail "q8")) (vx_cwSW 4 hts gL_isCurve_L_addCurve rfl rfl rfl (by decide +kernel) ⟨Nat.le_of_ble_eq_true rfl, Nat.le_of_ble_eq_true rfl⟩) ⟨xB_blind, hpre _⟩ rfl rfl hl.1 rfl (lv_room (Nat.le_of_ble_eq_true rfl)) dL_isCurve_16 ⟨Nat.le_of_ble_eq_true rfl, Nat.le_of_ble_eq_true rfl⟩) (fun (u : Unit) => [(aR, .inr (11, [.ref aG, .ref aP, .ref aH, .ref aY, .ref aT, .ref aS, .ref aF, .ref aX, .int (iI pr), .int (iI tk), .int (iI tol), .int (iI hou)])), (aP, .inr (6, [.ref aPx, .ref aPy, .int (iI (if acT pn rgs nx ny = 0 then (pn + rgs) else pn))])), (aPx, .inl (gI g, 200, .inl (ar (if acT pn rgs nx ny = 0 then (fil bx pn (pn + rgs) nx) else bx)))), (aPy, .inl (gI g, 200, .inl (ar (if acT pn rgs nx ny = 0 then (fil byy pn (pn + rgs) ny) else byy)))), (aN, .inl (gI g, 1960, .inl (ar F)))]) rfl rfl (by decide) (fun _ => rfl) rfl (fun u v_11 H locs hv_11 pv_11 hP hD hS => ?_)
      have hP : va_P (gD g) vwCl [(aR, .inr (11, [.ref aG, .ref aP, .ref aH, .ref aY, .ref aT, .ref aS, .ref aF, .ref aX, .int (iI pr), .int (iI tk), .int (iI tol), .int (iI hou)])), (aP, .inr (6, [.ref aPx, .ref aPy, .int (iI (if acT pn rgs nx ny = 0 then (pn + rgs) else pn))])), (aPx, .inl (gI g, 200, .inl (ar (if acT pn rgs nx ny = 0 then (fil bx pn (pn + rgs) nx) else bx)))), (aPy, .inl (gI g, 200, .inl (ar (if acT pn rgs nx ny = 0 then (fil byy pn (pn + rgs) ny) else byy)))), (aN, .inl (gI g, 1960, .inl (ar F)))] H := hP
      have hD : va_D A [(aR, .inr (11, [.ref aG, .ref aP, .ref aH, .ref aY, .ref aT, .ref aS, .ref aF, .ref aX, .int (iI pr), .int (iI tk), .int (iI tol), .int (iI hou)])), (aP, .inr (6, [.ref aPx, .ref aPy, .int (iI (if acT pn rgs nx ny = 0 then (pn + rgs) else pn))])), (aPx, .inl (gI g, 200, .inl (ar (if acT pn rgs nx ny = 0 then (fil bx pn (pn + rgs) nx) else bx)))), (aPy, .inl (gI g, 200, .inl (ar (if acT pn rgs nx ny = 0 then (fil byy pn (pn + rgs) ny) else byy)))), (aN, .inl (gI g, 1960, .inl (ar F)))] := hD
      have hv_11 : v_11 = (if acT pn rgs nx ny = 0 then pn + rgs else -900000 - acT pn rgs nx ny) := hv_11
      refine x_ldc (v := -900002) hx hb hown (hts (.constant RL 20 (-900002)) (List.mem_of_getElem? (i := 1) rfl)) (by decide) dL_isCurve_19 ?_
      refine x_cmp_ne (tgt := 28) hx hb (by omega) (by omega) dL_isCurve_21 (by decide) (fun c_12 => ?_) (fun c_12 => ?_)
      · skip
        exfalso
        first
        | (
           omega)
        | fail "q9"
      · skip
        refine x_iconst hx hb dL_isCurve_24 ?_
        refine lv_goto (tgt := 29) hx hb dL_isCurve_25 (by decide) ?_
        rw [hQ9]
        exact x_iret hx hb hr hlocks hP hD hS (S := (Int → Int)) (by decide) dL_isCurve_29 F (by
            first
            | (
               exact (bI_t True.intro).symm)
            | fail "q9") (by
            first
            | (
               first | (rw [if_pos hT]; rw [hF1, show k1 = rgs by omega]; exact agr_r _) | (rw [if_neg (by omega)]; exact agr_r _))
            | fail "q9") rfl (Nat.le_of_ble_eq_true rfl) (Nat.le_of_ble_eq_true rfl)
  rw [hH, hlo, hQ9] at goal_
  exact goal_

set_option maxHeartbeats 4000000 in
set_option maxRecDepth 100000 in
theorem c_L_isCast (l : Launch) (hflags : l.stackTraces = false) (g : xg) (sz : Nat) (aR aG aP aH aY aT aS aF aX aYh aYt aYc aN : Nat) (pr tk tol hou sta nt : Int) (ht yt yc F : Int → Int) (hb_ht : bnd ht 0 12) (hhou : 0 ≤ hou ∧ hou ≤ 5000) (hsta : 0 ≤ sta ∧ sta ≤ 2) (hnt : 0 ≤ nt ∧ nt ≤ 9) (hF10 : F (10 + sta) = ht sta) (hF4 : F 4 = hou) : Met l yL_isCast wsL_isCast { frames := 9, cells := 3, slots := 18, locals := 159 } (va_Pc [.ref aR, .ref aN, .int (iI sta), .int (iI nt)] (xB g [(aR, .inr (11, [.ref aG, .ref aP, .ref aH, .ref aY, .ref aT, .ref aS, .ref aF, .ref aX, .int (iI pr), .int (iI tk), .int (iI tol), .int (iI hou)])), (aY, .inr (10, [.ref aYh, .ref aYt, .ref aYc])), (aYh, .inl (gI g, 3, .inl (ar ht))), (aYt, .inl (gI g, 36, .inl (ar yt))), (aYc, .inl (gI g, 36, .inl (ar yc))), (aN, .inl (gI g, 1960, .inl (ar F)))] sz)) (va_Qi (fun r u => r = iI ((fun (u : (Int → Int)) => bI (True)) u) ∧ (fun (u : (Int → Int)) => agr u (if caT ht sta nt = 0 then csF F sta (ht sta) hou nt else F)) u) (fun u t => xE g (va_A [(aR, .inr (11, [.ref aG, .ref aP, .ref aH, .ref aY, .ref aT, .ref aS, .ref aF, .ref aX, .int (iI pr), .int (iI tk), .int (iI tol), .int (iI hou)])), (aY, .inr (10, [.ref aYh, .ref aYt, .ref aYc])), (aYh, .inl (gI g, 3, .inl (ar ht))), (aYt, .inl (gI g, 36, .inl (ar yt))), (aYc, .inl (gI g, 36, .inl (ar yc))), (aN, .inl (gI g, 1960, .inl (ar F)))] sz) ((fun (u : (Int → Int)) => [(aR, .inr (11, [.ref aG, .ref aP, .ref aH, .ref aY, .ref aT, .ref aS, .ref aF, .ref aX, .int (iI pr), .int (iI tk), .int (iI tol), .int (iI hou)])), (aY, .inr (10, [.ref aYh, .ref aYt, .ref aYc])), (aYh, .inl (gI g, 3, .inl (ar (if caT ht sta nt = 0 then (up ht sta (ht sta + 1)) else ht)))), (aYt, .inl (gI g, 36, .inl (ar (if caT ht sta nt = 0 then (up yt (sta * 12 + ht sta) nt) else yt)))), (aYc, .inl (gI g, 36, .inl (ar (if caT ht sta nt = 0 then (up yc (sta * 12 + ht sta) hou) else yc)))), (aN, .inl (gI g, 1960, .inl (ar u)))]) u) t) (va_A [(aR, .inr (11, [.ref aG, .ref aP, .ref aH, .ref aY, .ref aT, .ref aS, .ref aF, .ref aX, .int (iI pr), .int (iI tk), .int (iI tol), .int (iI hou)])), (aY, .inr (10, [.ref aYh, .ref aYt, .ref aYc])), (aYh, .inl (gI g, 3, .inl (ar ht))), (aYt, .inl (gI g, 36, .inl (ar yt))), (aYc, .inl (gI g, 36, .inl (ar yc))), (aN, .inl (gI g, 1960, .inl (ar F)))] sz)) 3 18 (va_A [(aR, .inr (11, [.ref aG, .ref aP, .ref aH, .ref aY, .ref aT, .ref aS, .ref aF, .ref aX, .int (iI pr), .int (iI tk), .int (iI tol), .int (iI hou)])), (aY, .inr (10, [.ref aYh, .ref aYt, .ref aYc])), (aYh, .inl (gI g, 3, .inl (ar ht))), (aYt, .inl (gI g, 36, .inl (ar yt))), (aYc, .inl (gI g, 36, .inl (ar yc))), (aN, .inl (gI g, 1960, .inl (ar F)))] sz) := by
  refine x_enter (y := yL_isCast) (ws := wsL_isCast) (g := g) (sz := sz) (av := [.ref aR, .ref aN, .int (iI sta), .int (iI nt)]) (WS := [(aR, .inr (11, [.ref aG, .ref aP, .ref aH, .ref aY, .ref aT, .ref aS, .ref aF, .ref aX, .int (iI pr), .int (iI tk), .int (iI tol), .int (iI hou)])), (aY, .inr (10, [.ref aYh, .ref aYt, .ref aYc])), (aYh, .inl (gI g, 3, .inl (ar ht))), (aYt, .inl (gI g, 36, .inl (ar yt))), (aYc, .inl (gI g, 36, .inl (ar yc))), (aN, .inl (gI g, 1960, .inl (ar F)))]) (cc := cL_isCast) (maxL := 4) (ret := some .boolean) (Qc := (fun A => (va_Qi (fun r u => r = iI ((fun (u : (Int → Int)) => bI (True)) u) ∧ (fun (u : (Int → Int)) => agr u (if caT ht sta nt = 0 then csF F sta (ht sta) hou nt else F)) u) (fun u t => xE g A ((fun (u : (Int → Int)) => [(aR, .inr (11, [.ref aG, .ref aP, .ref aH, .ref aY, .ref aT, .ref aS, .ref aF, .ref aX, .int (iI pr), .int (iI tk), .int (iI tol), .int (iI hou)])), (aY, .inr (10, [.ref aYh, .ref aYt, .ref aYc])), (aYh, .inl (gI g, 3, .inl (ar (if caT ht sta nt = 0 then (up ht sta (ht sta + 1)) else ht)))), (aYt, .inl (gI g, 36, .inl (ar (if caT ht sta nt = 0 then (up yt (sta * 12 + ht sta) nt) else yt)))), (aYc, .inl (gI g, 36, .inl (ar (if caT ht sta nt = 0 then (up yc (sta * 12 + ht sta) hou) else yc)))), (aN, .inl (gI g, 1960, .inl (ar u)))]) u) t) A))) (by decide) rfl (Nat.le_of_ble_eq_true rfl) ?_
  intro p e s m args below meth c A ls hx hb hr hml hown hts hlocks hname hC hP hD hS hA hl
  have hK := hC.1
  have hown : s.vm.findClass RL = some m.cls := hown
  have hl : lv_has ls 4 [(0, .ref aR), (1, .ref aN), (2, .int (iI sta)), (3, .int (iI nt))] := hl
  obtain ⟨H, hH⟩ : ∃ z, z = s.heap := ⟨_, rfl⟩
  obtain ⟨locs, hlo⟩ : ∃ z : List Loc, z = [] := ⟨_, rfl⟩
  obtain ⟨Q9, hQ9⟩ : ∃ z, z = MQ below (va_Qi (fun r u => r = iI ((fun (u : (Int → Int)) => bI (True)) u) ∧ (fun (u : (Int → Int)) => agr u (if caT ht sta nt = 0 then csF F sta (ht sta) hou nt else F)) u) (fun u t => xE g A ((fun (u : (Int → Int)) => [(aR, .inr (11, [.ref aG, .ref aP, .ref aH, .ref aY, .ref aT, .ref aS, .ref aF, .ref aX, .int (iI pr), .int (iI tk), .int (iI tol), .int (iI hou)])), (aY, .inr (10, [.ref aYh, .ref aYt, .ref aYc])), (aYh, .inl (gI g, 3, .inl (ar (if caT ht sta nt = 0 then (up ht sta (ht sta + 1)) else ht)))), (aYt, .inl (gI g, 36, .inl (ar (if caT ht sta nt = 0 then (up yt (sta * 12 + ht sta) nt) else yt)))), (aYc, .inl (gI g, 36, .inl (ar (if caT ht sta nt = 0 then (up yc (sta * 12 + ht sta) hou) else yc)))), (aN, .inl (gI g, 1960, .inl (ar u)))]) u) t) A) args s 3 18 A := ⟨_, rfl⟩
  have hP : va_P (gD g) vwCl [(aR, .inr (11, [.ref aG, .ref aP, .ref aH, .ref aY, .ref aT, .ref aS, .ref aF, .ref aX, .int (iI pr), .int (iI tk), .int (iI tol), .int (iI hou)])), (aY, .inr (10, [.ref aYh, .ref aYt, .ref aYc])), (aYh, .inl (gI g, 3, .inl (ar ht))), (aYt, .inl (gI g, 36, .inl (ar yt))), (aYc, .inl (gI g, 36, .inl (ar yc))), (aN, .inl (gI g, 1960, .inl (ar F)))] H := by rw [hH]; exact hP
  have hS : va_S A s.heap H locs := by rw [hH, hlo]; exact hS
  have goal_ : W p l e { frames := 9, cells := 3, slots := 18, locals := 159 } s m args below meth c H locs 0 0 Q9 (F0 m 0 ls []) := by
    clear hH hlo
    have hbs := hb_ht sta
    refine lv_aload_n hx hb dL_isCast_0 rfl (lv_at hl 1 rfl) ?_
    refine x_bipush hx hb dL_isCast_1 (by decide) ?_
    refine lv_iload_n hx hb dL_isCast_3 rfl (lv_at hl 2 rfl) ?_
    refine x_iadd hx hb dL_isCast_4 ?_
    refine x_iald hx hb hK hP 5 0 rfl rfl (by omega) (by omega) (Nat.le_of_ble_eq_true rfl) dL_isCast_5 (fun v_1 hv_1 => ?_)
    refine x_top (show v_1 = ht sta by
        first
        | (
           omega)
        | fail "q9") ?_
    refine x_bipush hx hb dL_isCast_6 (by decide) ?_
    refine x_cmp_ne (tgt := 28) hx hb (by omega) (by omega) dL_isCast_8 (by decide) (fun c_2 => ?_) (fun c_2 => ?_)
    · skip
      refine lv_aload_n hx hb dL_isCast_28 rfl (lv_at hl 1 rfl) ?_
      refine x_bipush hx hb dL_isCast_29 (by decide) ?_
      refine lv_iload_n hx hb dL_isCast_31 rfl (lv_at hl 2 rfl) ?_
      refine x_iadd hx hb dL_isCast_32 ?_
      refine lv_dup2_11 hx hb dL_isCast_33 rfl rfl ?_
      refine x_iald hx hb hK hP 5 0 rfl rfl (by omega) (by omega) (Nat.le_of_ble_eq_true rfl) dL_isCast_34 (fun v_3 hv_3 => ?_)
      refine x_top (show v_3 = ht sta by
          first
          | (
             omega)
          | fail "q9") ?_
      refine x_iconst hx hb dL_isCast_35 ?_
      refine x_iadd hx hb dL_isCast_36 ?_
      obtain ⟨v_4, ev_4⟩ : ∃ z : Int, z = (ht sta) + 1 := ⟨_, rfl⟩
      refine x_top ev_4.symm ?_
      refine x_iast hx hb hK hP hD hS 5 0 rfl rfl (by omega) (by omega) (Nat.le_of_ble_eq_true rfl) dL_isCast_37 (fun H locs hP hD hS => ?_)
      have hP : va_P (gD g) vwCl [(aR, .inr (11, [.ref aG, .ref aP, .ref aH, .ref aY, .ref aT, .ref aS, .ref aF, .ref aX, .int (iI pr), .int (iI tk), .int (iI tol), .int (iI hou)])), (aY, .inr (10, [.ref aYh, .ref aYt, .ref aYc])), (aYh, .inl (gI g, 3, .inl (ar ht))), (aYt, .inl (gI g, 36, .inl (ar yt))), (aYc, .inl (gI g, 36, .inl (ar yc))), (aN, .inl (gI g, 1960, .inl (ar (up F (10 + sta) v_4))))] H := hP
      have hD : va_D A [(aR, .inr (11, [.ref aG, .ref aP, .ref aH, .ref aY, .ref aT, .ref aS, .ref aF, .ref aX, .int (iI pr), .int (iI tk), .int (iI tol), .int (iI hou)])), (aY, .inr (10, [.ref aYh, .ref aYt, .ref aYc])), (aYh, .inl (gI g, 3, .inl (ar ht))), (aYt, .inl (gI g, 36, .inl (ar yt))), (aYc, .inl (gI g, 36, .inl (ar yc))), (aN, .inl (gI g, 1960, .inl (ar (up F (10 + sta) v_4))))] := hD
      refine lv_aload_n hx hb dL_isCast_38 rfl (lv_at hl 1 rfl) ?_
      refine lv_aload_n hx hb dL_isCast_39 rfl (lv_at hl 1 rfl) ?_
      refine lv_iload_n hx hb dL_isCast_40 rfl (lv_at hl 2 rfl) ?_
      refine x_calli (S := Unit) (wc := [(aN, .inl (gI g, 1960, .inl (ar (up F (10 + sta) v_4))))]) (wr := [(aR, .inr (11, [.ref aG, .ref aP, .ref aH, .ref aY, .ref aT, .ref aS, .ref aF, .ref aX, .int (iI pr), .int (iI tk), .int (iI tol), .int (iI hou)])), (aY, .inr (10, [.ref aYh, .ref aYt, .ref aYc])), (aYh, .inl (gI g, 3, .inl (ar ht))), (aYt, .inl (gI g, 36, .inl (ar yt))), (aYc, .inl (gI g, 36, .inl (ar yc)))]) hC hP hD hS hA [5] [0, 1, 2, 3, 4] [0, 1, 2, 3, 4, 5] rfl rfl (fun hpre => va_runS (As := [.ref aN, .int (iI sta)]) (rest := [.ref aN]) ⟨hx, hb, hml, hown, hts⟩ (c_L_topOf l g H.size aN sta (up F (10 + sta) v_4) (by first | (first | assumption | omega | exact bnd_up (by assumption) (by omega) (by omega)) | fail "q8")) (va_cwS 2 hts gL_isCast_L_topOf rfl rfl rfl (by decide +kernel) ⟨Nat.le_of_ble_eq_true rfl, Nat.le_of_ble_eq_true rfl⟩) ⟨xB_blind, hpre _⟩ rfl rfl hl.1 rfl (lv_room (Nat.le_of_ble_eq_true rfl)) dL_isCast_41 ⟨Nat.le_of_ble_eq_true rfl, Nat.le_of_ble_eq_true rfl⟩) (fun (u : Unit) => [(aR, .inr (11, [.ref aG, .ref aP, .ref aH, .ref aY, .ref aT, .ref aS, .ref aF, .ref aX, .int (iI pr), .int (iI tk), .int (iI tol), .int (iI hou)])), (aY, .inr (10, [.ref aYh, .ref aYt, .ref aYc])), (aYh, .inl (gI g, 3, .inl (ar ht))), (aYt, .inl (gI g, 36, .inl (ar yt))), (aYc, .inl (gI g, 36, .inl (ar yc))), (aN, .inl (gI g, 1960, .inl (ar (up F (10 + sta) v_4))))]) rfl rfl (by decide) (fun _ => rfl) rfl (fun u v_5 H locs hv_5 pv_5 hP hD hS => ?_)
      have hP : va_P (gD g) vwCl [(aR, .inr (11, [.ref aG, .ref aP, .ref aH, .ref aY, .ref aT, .ref aS, .ref aF, .ref aX, .int (iI pr), .int (iI tk), .int (iI tol), .int (iI hou)])), (aY, .inr (10, [.ref aYh, .ref aYt, .ref aYc])), (aYh, .inl (gI g, 3, .inl (ar ht))), (aYt, .inl (gI g, 36, .inl (ar yt))), (aYc, .inl (gI g, 36, .inl (ar yc))), (aN, .inl (gI g, 1960, .inl (ar (up F (10 + sta) v_4))))] H := hP
      have hD : va_D A [(aR, .inr (11, [.ref aG, .ref aP, .ref aH, .ref aY, .ref aT, .ref aS, .ref aF, .ref aX, .int (iI pr), .int (iI tk), .int (iI tol), .int (iI hou)])), (aY, .inr (10, [.ref aYh, .ref aYt, .ref aYc])), (aYh, .inl (gI g, 3, .inl (ar ht))), (aYt, .inl (gI g, 36, .inl (ar yt))), (aYc, .inl (gI g, 36, .inl (ar yc))), (aN, .inl (gI g, 1960, .inl (ar (up F (10 + sta) v_4))))] := hD
      have hv_5 : v_5 = 1818 + 24 * sta + 2 * (up F (10 + sta) v_4) (10 + sta) := hv_5
      have yv_5 : v_5 = 1818 + 24 * sta + 2 * (ht sta + 1) := by
          first
          | (
             rw [hv_5]
             (repeat (first | rw [up_at _ _ (by omega)] | rw [up_ne _ _ (by omega)]))
             omega)
          | fail "q9"
      refine x_top yv_5 ?_
      refine lv_iload_n hx hb dL_isCast_44 rfl (lv_at hl 3 rfl) ?_
      refine x_iast hx hb hK hP hD hS 5 0 rfl rfl (by omega) (by omega) (Nat.le_of_ble_eq_true rfl) dL_isCast_45 (fun H locs hP hD hS => ?_)
      have hP : va_P (gD g) vwCl [(aR, .inr (11, [.ref aG, .ref aP, .ref aH, .ref aY, .ref aT, .ref aS, .ref aF, .ref aX, .int (iI pr), .int (iI tk), .int (iI tol), .int (iI hou)])), (aY, .inr (10, [.ref aYh, .ref aYt, .ref aYc])), (aYh, .inl (gI g, 3, .inl (ar ht))), (aYt, .inl (gI g, 36, .inl (ar yt))), (aYc, .inl (gI g, 36, .inl (ar yc))), (aN, .inl (gI g, 1960, .inl (ar (up (up F (10 + sta) v_4) (1818 + 24 * sta + 2 * (ht sta + 1)) nt))))] H := hP
      have hD : va_D A [(aR, .inr (11, [.ref aG, .ref aP, .ref aH, .ref aY, .ref aT, .ref aS, .ref aF, .ref aX, .int (iI pr), .int (iI tk), .int (iI tol), .int (iI hou)])), (aY, .inr (10, [.ref aYh, .ref aYt, .ref aYc])), (aYh, .inl (gI g, 3, .inl (ar ht))), (aYt, .inl (gI g, 36, .inl (ar yt))), (aYc, .inl (gI g, 36, .inl (ar yc))), (aN, .inl (gI g, 1960, .inl (ar (up (up F (10 + sta) v_4) (1818 + 24 * sta + 2 * (ht sta + 1)) nt))))] := hD
      refine lv_aload_n hx hb dL_isCast_46 rfl (lv_at hl 1 rfl) ?_
      refine lv_aload_n hx hb dL_isCast_47 rfl (lv_at hl 1 rfl) ?_
      refine lv_iload_n hx hb dL_isCast_48 rfl (lv_at hl 2 rfl) ?_
      refine x_calli (S := Unit) (wc := [(aN, .inl (gI g, 1960, .inl (ar (up (up F (10 + sta) v_4) (1818 + 24 * sta + 2 * (ht sta + 1)) nt))))]) (wr := [(aR, .inr (11, [.ref aG, .ref aP, .ref aH, .ref aY, .ref aT, .ref aS, .ref aF, .ref aX, .int (iI pr), .int (iI tk), .int (iI tol), .int (iI hou)])), (aY, .inr (10, [.ref aYh, .ref aYt, .ref aYc])), (aYh, .inl (gI g, 3, .inl (ar ht))), (aYt, .inl (gI g, 36, .inl (ar yt))), (aYc, .inl (gI g, 36, .inl (ar yc)))]) hC hP hD hS hA [5] [0, 1, 2, 3, 4] [0, 1, 2, 3, 4, 5] rfl rfl (fun hpre => va_runS (As := [.ref aN, .int (iI sta)]) (rest := [.ref aN]) ⟨hx, hb, hml, hown, hts⟩ (c_L_topOf l g H.size aN sta (up (up F (10 + sta) v_4) (1818 + 24 * sta + 2 * (ht sta + 1)) nt) (by first | (first | assumption | omega | exact bnd_up (by assumption) (by omega) (by omega)) | fail "q8")) (va_cwS 2 hts gL_isCast_L_topOf rfl rfl rfl (by decide +kernel) ⟨Nat.le_of_ble_eq_true rfl, Nat.le_of_ble_eq_true rfl⟩) ⟨xB_blind, hpre _⟩ rfl rfl hl.1 rfl (lv_room (Nat.le_of_ble_eq_true rfl)) dL_isCast_49 ⟨Nat.le_of_ble_eq_true rfl, Nat.le_of_ble_eq_true rfl⟩) (fun (u : Unit) => [(aR, .inr (11, [.ref aG, .ref aP, .ref aH, .ref aY, .ref aT, .ref aS, .ref aF, .ref aX, .int (iI pr), .int (iI tk), .int (iI tol), .int (iI hou)])), (aY, .inr (10, [.ref aYh, .ref aYt, .ref aYc])), (aYh, .inl (gI g, 3, .inl (ar ht))), (aYt, .inl (gI g, 36, .inl (ar yt))), (aYc, .inl (gI g, 36, .inl (ar yc))), (aN, .inl (gI g, 1960, .inl (ar (up (up F (10 + sta) v_4) (1818 + 24 * sta + 2 * (ht sta + 1)) nt))))]) rfl rfl (by decide) (fun _ => rfl) rfl (fun u v_6 H locs hv_6 pv_6 hP hD hS => ?_)
      have hP : va_P (gD g) vwCl [(aR, .inr (11, [.ref aG, .ref aP, .ref aH, .ref aY, .ref aT, .ref aS, .ref aF, .ref aX, .int (iI pr), .int (iI tk), .int (iI tol), .int (iI hou)])), (aY, .inr (10, [.ref aYh, .ref aYt, .ref aYc])), (aYh, .inl (gI g, 3, .inl (ar ht))), (aYt, .inl (gI g, 36, .inl (ar yt))), (aYc, .inl (gI g, 36, .inl (ar yc))), (aN, .inl (gI g, 1960, .inl (ar (up (up F (10 + sta) v_4) (1818 + 24 * sta + 2 * (ht sta + 1)) nt))))] H := hP
      have hD : va_D A [(aR, .inr (11, [.ref aG, .ref aP, .ref aH, .ref aY, .ref aT, .ref aS, .ref aF, .ref aX, .int (iI pr), .int (iI tk), .int (iI tol), .int (iI hou)])), (aY, .inr (10, [.ref aYh, .ref aYt, .ref aYc])), (aYh, .inl (gI g, 3, .inl (ar ht))), (aYt, .inl (gI g, 36, .inl (ar yt))), (aYc, .inl (gI g, 36, .inl (ar yc))), (aN, .inl (gI g, 1960, .inl (ar (up (up F (10 + sta) v_4) (1818 + 24 * sta + 2 * (ht sta + 1)) nt))))] := hD
      have hv_6 : v_6 = 1818 + 24 * sta + 2 * (up (up F (10 + sta) v_4) (1818 + 24 * sta + 2 * (ht sta + 1)) nt) (10 + sta) := hv_6
      have yv_6 : v_6 = 1818 + 24 * sta + 2 * (ht sta + 1) := by
          first
          | (
             rw [hv_6]
             (repeat (first | rw [up_at _ _ (by omega)] | rw [up_ne _ _ (by omega)]))
             omega)
          | fail "q9"
      refine x_top yv_6 ?_
      refine x_iconst hx hb dL_isCast_52 ?_
      refine x_iadd hx hb dL_isCast_53 ?_
      refine lv_aload_n hx hb dL_isCast_54 rfl (lv_at hl 1 rfl) ?_
      refine x_iconst hx hb dL_isCast_55 ?_
      refine x_iald hx hb hK hP 5 0 rfl rfl (by omega) (by omega) (Nat.le_of_ble_eq_true rfl) dL_isCast_56 (fun v_7 hv_7 => ?_)
      (repeat (first | rw [up_at _ _ (by omega)] at hv_7 | rw [up_ne _ _ (by omega)] at hv_7))
      refine x_top (show v_7 = hou by
          first
          | (
             omega)
          | fail "q9") ?_
      refine x_iast hx hb hK hP hD hS 5 0 rfl rfl (by omega) (by omega) (Nat.le_of_ble_eq_true rfl) dL_isCast_57 (fun H locs hP hD hS => ?_)
      have hP : va_P (gD g) vwCl [(aR, .inr (11, [.ref aG, .ref aP, .ref aH, .ref aY, .ref aT, .ref aS, .ref aF, .ref aX, .int (iI pr), .int (iI tk), .int (iI tol), .int (iI hou)])), (aY, .inr (10, [.ref aYh, .ref aYt, .ref aYc])), (aYh, .inl (gI g, 3, .inl (ar ht))), (aYt, .inl (gI g, 36, .inl (ar yt))), (aYc, .inl (gI g, 36, .inl (ar yc))), (aN, .inl (gI g, 1960, .inl (ar (up (up (up F (10 + sta) v_4) (1818 + 24 * sta + 2 * (ht sta + 1)) nt) ((1818 + 24 * sta + 2 * (ht sta + 1)) + 1) hou))))] H := hP
      have hD : va_D A [(aR, .inr (11, [.ref aG, .ref aP, .ref aH, .ref aY, .ref aT, .ref aS, .ref aF, .ref aX, .int (iI pr), .int (iI tk), .int (iI tol), .int (iI hou)])), (aY, .inr (10, [.ref aYh, .ref aYt, .ref aYc])), (aYh, .inl (gI g, 3, .inl (ar ht))), (aYt, .inl (gI g, 36, .inl (ar yt))), (aYc, .inl (gI g, 36, .inl (ar yc))), (aN, .inl (gI g, 1960, .inl (ar (up (up (up F (10 + sta) v_4) (1818 + 24 * sta + 2 * (ht sta + 1)) nt) ((1818 + 24 * sta + 2 * (ht sta + 1)) + 1) hou))))] := hD
      have hT : caT ht sta nt = 0 := by unfold caT; omega
      refine lv_aload_n hx hb dL_isCast_58 rfl (lv_at hl 0 rfl) ?_
      refine lv_iload_n hx hb dL_isCast_59 rfl (lv_at hl 2 rfl) ?_
      refine lv_iload_n hx hb dL_isCast_60 rfl (lv_at hl 3 rfl) ?_
      refine x_calli (S := Unit) (wc := [(aR, .inr (11, [.ref aG, .ref aP, .ref aH, .ref aY, .ref aT, .ref aS, .ref aF, .ref aX, .int (iI pr), .int (iI tk), .int (iI tol), .int (iI hou)])), (aY, .inr (10, [.ref aYh, .ref aYt, .ref aYc])), (aYh, .inl (gI g, 3, .inl (ar ht))), (aYt, .inl (gI g, 36, .inl (ar yt))), (aYc, .inl (gI g, 36, .inl (ar yc)))]) (wr := [(aN, .inl (gI g, 1960, .inl (ar (up (up (up F (10 + sta) v_4) (1818 + 24 * sta + 2 * (ht sta + 1)) nt) ((1818 + 24 * sta + 2 * (ht sta + 1)) + 1) hou))))]) hC hP hD hS hA [0, 1, 2, 3, 4] [5] [1, 2, 3, 4, 5, 0] rfl rfl (fun hpre => vx_runSW (As := [.ref aR, .int (iI sta), .int (iI nt)]) (rest := []) ⟨hx, hb, hml, hown, hts⟩ (c_L_cast l hflags g H.size aR aG aP aH aY aT aS aF aX aYh aYt aYc pr tk tol hou sta nt ht yt yc (by first | (first | assumption | omega | exact bnd_up (by assumption) (by omega) (by omega)) | fail "q8") (by first | (first | assumption | omega | exact bnd_up (by assumption) (by omega) (by omega)) | fail "q8") (by first | (first | assumption | omega | exact bnd_up (by assumption) (by omega) (by omega)) | fail "q8") (by first | (first | assumption | omega | exact bnd_up (by assumption) (by omega) (by omega)) | fail "q8")) (vx_cwSW 3 hts gL_isCast_L_cast rfl rfl rfl (by decide +kernel) ⟨Nat.le_of_ble_eq_true rfl, Nat.le_of_ble_eq_true rfl⟩) ⟨xB_blind, hpre _⟩ rfl rfl hl.1 rfl (lv_room (Nat.le_of_ble_eq_true rfl)) dL_isCast_61 ⟨Nat.le_of_ble_eq_true rfl, Nat.le_of_ble_eq_true rfl⟩) (fun (u : Unit) => [(aR, .inr (11, [.ref aG, .ref aP, .ref aH, .ref aY, .ref aT, .ref aS, .ref aF, .ref aX, .int (iI pr), .int (iI tk), .int (iI tol), .int (iI hou)])), (aY, .inr (10, [.ref aYh, .ref aYt, .ref aYc])), (aYh, .inl (gI g, 3, .inl (ar (if caT ht sta nt = 0 then (up ht sta (ht sta + 1)) else ht)))), (aYt, .inl (gI g, 36, .inl (ar (if caT ht sta nt = 0 then (up yt (sta * 12 + ht sta) nt) else yt)))), (aYc, .inl (gI g, 36, .inl (ar (if caT ht sta nt = 0 then (up yc (sta * 12 + ht sta) hou) else yc)))), (aN, .inl (gI g, 1960, .inl (ar (up (up (up F (10 + sta) v_4) (1818 + 24 * sta + 2 * (ht sta + 1)) nt) ((1818 + 24 * sta + 2 * (ht sta + 1)) + 1) hou))))]) rfl rfl (by decide) (fun _ => rfl) rfl (fun u v_8 H locs hv_8 pv_8 hP hD hS => ?_)
      have hP : va_P (gD g) vwCl [(aR, .inr (11, [.ref aG, .ref aP, .ref aH, .ref aY, .ref aT, .ref aS, .ref aF, .ref aX, .int (iI pr), .int (iI tk), .int (iI tol), .int (iI hou)])), (aY, .inr (10, [.ref aYh, .ref aYt, .ref aYc])), (aYh, .inl (gI g, 3, .inl (ar (if caT ht sta nt = 0 then (up ht sta (ht sta + 1)) else ht)))), (aYt, .inl (gI g, 36, .inl (ar (if caT ht sta nt = 0 then (up yt (sta * 12 + ht sta) nt) else yt)))), (aYc, .inl (gI g, 36, .inl (ar (if caT ht sta nt = 0 then (up yc (sta * 12 + ht sta) hou) else yc)))), (aN, .inl (gI g, 1960, .inl (ar (up (up (up F (10 + sta) v_4) (1818 + 24 * sta + 2 * (ht sta + 1)) nt) ((1818 + 24 * sta + 2 * (ht sta + 1)) + 1) hou))))] H := hP
      have hD : va_D A [(aR, .inr (11, [.ref aG, .ref aP, .ref aH, .ref aY, .ref aT, .ref aS, .ref aF, .ref aX, .int (iI pr), .int (iI tk), .int (iI tol), .int (iI hou)])), (aY, .inr (10, [.ref aYh, .ref aYt, .ref aYc])), (aYh, .inl (gI g, 3, .inl (ar (if caT ht sta nt = 0 then (up ht sta (ht sta + 1)) else ht)))), (aYt, .inl (gI g, 36, .inl (ar (if caT ht sta nt = 0 then (up yt (sta * 12 + ht sta) nt) else yt)))), (aYc, .inl (gI g, 36, .inl (ar (if caT ht sta nt = 0 then (up yc (sta * 12 + ht sta) hou) else yc)))), (aN, .inl (gI g, 1960, .inl (ar (up (up (up F (10 + sta) v_4) (1818 + 24 * sta + 2 * (ht sta + 1)) nt) ((1818 + 24 * sta + 2 * (ht sta + 1)) + 1) hou))))] := hD
      have hv_8 : v_8 = (if caT ht sta nt = 0 then ht sta + 1 else -900000 - caT ht sta nt) := hv_8
      refine lv_aload_n hx hb dL_isCast_64 rfl (lv_at hl 1 rfl) ?_
      refine x_bipush hx hb dL_isCast_65 (by decide) ?_
      refine lv_iload_n hx hb dL_isCast_67 rfl (lv_at hl 2 rfl) ?_
      refine x_iadd hx hb dL_isCast_68 ?_
      refine x_iald hx hb hK hP 5 0 rfl rfl (by omega) (by omega) (Nat.le_of_ble_eq_true rfl) dL_isCast_69 (fun v_9 hv_9 => ?_)
      (repeat (first | rw [up_at _ _ (by omega)] at hv_9 | rw [up_ne _ _ (by omega)] at hv_9))
      refine x_top (show v_9 = ht sta + 1 by
          first
          | (
             omega)
          | fail "q9") ?_
      refine x_cmp_ne (tgt := 77) hx hb (by omega) (by omega) dL_isCast_70 (by decide) (fun c_10 => ?_) (fun c_10 => ?_)
      · skip
        exfalso
        first
        | (
           omega)
        | fail "q9"
      · skip
        refine x_iconst hx hb dL_isCast_73 ?_
        refine lv_goto (tgt := 78) hx hb dL_isCast_74 (by decide) ?_
        have q_11 : (up (up (up F (10 + sta) v_4) (1818 + 24 * sta + 2 * (ht sta + 1)) nt) ((1818 + 24 * sta + 2 * (ht sta + 1)) + 1) hou) = (up (up (up F (10 + sta) v_4) (1818 + 24 * sta + 2 * (ht sta + 1)) nt) ((1818 + 24 * sta + 2 * (ht sta + 1)) + 1) hou) := by
          first
          | (
             first | rfl | omega | (subst_vars; first | rfl | omega))
          | fail "q9"
        have hw_12 := (congrArg (fun (z0 : Int → Int) => ([(aR, .inr (11, [.ref aG, .ref aP, .ref aH, .ref aY, .ref aT, .ref aS, .ref aF, .ref aX, .int (iI pr), .int (iI tk), .int (iI tol), .int (iI hou)])), (aY, .inr (10, [.ref aYh, .ref aYt, .ref aYc])), (aYh, .inl (gI g, 3, .inl (ar (if caT ht sta nt = 0 then (up ht sta (ht sta + 1)) else ht)))), (aYt, .inl (gI g, 36, .inl (ar (if caT ht sta nt = 0 then (up yt (sta * 12 + ht sta) nt) else yt)))), (aYc, .inl (gI g, 36, .inl (ar (if caT ht sta nt = 0 then (up yc (sta * 12 + ht sta) hou) else yc)))), (aN, .inl (gI g, 1960, .inl (ar z0)))] : va_W)) q_11.symm)
        rw [hQ9]
        exact x_iret hx hb hr hlocks hP hD hS (S := (Int → Int)) (by decide) dL_isCast_78 (up (up (up F (10 + sta) v_4) (1818 + 24 * sta + 2 * (ht sta + 1)) nt) ((1818 + 24 * sta + 2 * (ht sta + 1)) + 1) hou) (by
            first
            | (
               exact (bI_t True.intro).symm)
            | fail "q9") (by
            first
            | (
               first | (rw [if_pos hT]; intro j hj; simp only [up, csF]; omega) | (rw [if_neg (by omega)]; exact agr_r _))
            | fail "q9") hw_12 (Nat.le_of_ble_eq_true rfl) (Nat.le_of_ble_eq_true rfl)
    · skip
      have hT : caT ht sta nt = 3 := by unfold caT; omega
      refine lv_aload_n hx hb dL_isCast_11 rfl (lv_at hl 0 rfl) ?_
      refine lv_iload_n hx hb dL_isCast_12 rfl (lv_at hl 2 rfl) ?_
      refine lv_iload_n hx hb dL_isCast_13 rfl (lv_at hl 3 rfl) ?_
      refine x_calli (S := Unit) (wc := [(aR, .inr (11, [.ref aG, .ref aP, .ref aH, .ref aY, .ref aT, .ref aS, .ref aF, .ref aX, .int (iI pr), .int (iI tk), .int (iI tol), .int (iI hou)])), (aY, .inr (10, [.ref aYh, .ref aYt, .ref aYc])), (aYh, .inl (gI g, 3, .inl (ar ht))), (aYt, .inl (gI g, 36, .inl (ar yt))), (aYc, .inl (gI g, 36, .inl (ar yc)))]) (wr := [(aN, .inl (gI g, 1960, .inl (ar F)))]) hC hP hD hS hA [0, 1, 2, 3, 4] [5] [1, 2, 3, 4, 5, 0] rfl rfl (fun hpre => vx_runSW (As := [.ref aR, .int (iI sta), .int (iI nt)]) (rest := []) ⟨hx, hb, hml, hown, hts⟩ (c_L_cast l hflags g H.size aR aG aP aH aY aT aS aF aX aYh aYt aYc pr tk tol hou sta nt ht yt yc (by first | (first | assumption | omega | exact bnd_up (by assumption) (by omega) (by omega)) | fail "q8") (by first | (first | assumption | omega | exact bnd_up (by assumption) (by omega) (by omega)) | fail "q8") (by first | (first | assumption | omega | exact bnd_up (by assumption) (by omega) (by omega)) | fail "q8") (by first | (first | assumption | omega | exact bnd_up (by assumption) (by omega) (by omega)) | fail "q8")) (vx_cwSW 3 hts gL_isCast_L_cast rfl rfl rfl (by decide +kernel) ⟨Nat.le_of_ble_eq_true rfl, Nat.le_of_ble_eq_true rfl⟩) ⟨xB_blind, hpre _⟩ rfl rfl hl.1 rfl (lv_room (Nat.le_of_ble_eq_true rfl)) dL_isCast_14 ⟨Nat.le_of_ble_eq_true rfl, Nat.le_of_ble_eq_true rfl⟩) (fun (u : Unit) => [(aR, .inr (11, [.ref aG, .ref aP, .ref aH, .ref aY, .ref aT, .ref aS, .ref aF, .ref aX, .int (iI pr), .int (iI tk), .int (iI tol), .int (iI hou)])), (aY, .inr (10, [.ref aYh, .ref aYt, .ref aYc])), (aYh, .inl (gI g, 3, .inl (ar (if caT ht sta nt = 0 then (up ht sta (ht sta + 1)) else ht)))), (aYt, .inl (gI g, 36, .inl (ar (if caT ht sta nt = 0 then (up yt (sta * 12 + ht sta) nt) else yt)))), (aYc, .inl (gI g, 36, .inl (ar (if caT ht sta nt = 0 then (up yc (sta * 12 + ht sta) hou) else yc)))), (aN, .inl (gI g, 1960, .inl (ar F)))]) rfl rfl (by decide) (fun _ => rfl) rfl (fun u v_13 H locs hv_13 pv_13 hP hD hS => ?_)
      have hP : va_P (gD g) vwCl [(aR, .inr (11, [.ref aG, .ref aP, .ref aH, .ref aY, .ref aT, .ref aS, .ref aF, .ref aX, .int (iI pr), .int (iI tk), .int (iI tol), .int (iI hou)])), (aY, .inr (10, [.ref aYh, .ref aYt, .ref aYc])), (aYh, .inl (gI g, 3, .inl (ar (if caT ht sta nt = 0 then (up ht sta (ht sta + 1)) else ht)))), (aYt, .inl (gI g, 36, .inl (ar (if caT ht sta nt = 0 then (up yt (sta * 12 + ht sta) nt) else yt)))), (aYc, .inl (gI g, 36, .inl (ar (if caT ht sta nt = 0 then (up yc (sta * 12 + ht sta) hou) else yc)))), (aN, .inl (gI g, 1960, .inl (ar F)))] H := hP
      have hD : va_D A [(aR, .inr (11, [.ref aG, .ref aP, .ref aH, .ref aY, .ref aT, .ref aS, .ref aF, .ref aX, .int (iI pr), .int (iI tk), .int (iI tol), .int (iI hou)])), (aY, .inr (10, [.ref aYh, .ref aYt, .ref aYc])), (aYh, .inl (gI g, 3, .inl (ar (if caT ht sta nt = 0 then (up ht sta (ht sta + 1)) else ht)))), (aYt, .inl (gI g, 36, .inl (ar (if caT ht sta nt = 0 then (up yt (sta * 12 + ht sta) nt) else yt)))), (aYc, .inl (gI g, 36, .inl (ar (if caT ht sta nt = 0 then (up yc (sta * 12 + ht sta) hou) else yc)))), (aN, .inl (gI g, 1960, .inl (ar F)))] := hD
      have hv_13 : v_13 = (if caT ht sta nt = 0 then ht sta + 1 else -900000 - caT ht sta nt) := hv_13
      refine x_ldc (v := -900003) hx hb hown (hts (.constant RL 30 (-900003)) (List.mem_of_getElem? (i := 1) rfl)) (by decide) dL_isCast_17 ?_
      refine x_cmp_ne (tgt := 26) hx hb (by omega) (by omega) dL_isCast_19 (by decide) (fun c_14 => ?_) (fun c_14 => ?_)
      · skip
        exfalso
        first
        | (
           omega)
        | fail "q9"
      · skip
        refine x_iconst hx hb dL_isCast_22 ?_
        refine lv_goto (tgt := 27) hx hb dL_isCast_23 (by decide) ?_
        rw [hQ9]
        exact x_iret hx hb hr hlocks hP hD hS (S := (Int → Int)) (by decide) dL_isCast_27 F (by
            first
            | (
               exact (bI_t True.intro).symm)
            | fail "q9") (by
            first
            | (
               first | (rw [if_pos hT]; intro j hj; simp only [up, csF]; omega) | (rw [if_neg (by omega)]; exact agr_r _))
            | fail "q9") rfl (Nat.le_of_ble_eq_true rfl) (Nat.le_of_ble_eq_true rfl)
  rw [hH, hlo, hQ9] at goal_
  exact goal_

set_option maxHeartbeats 4000000 in
set_option maxRecDepth 100000 in
theorem c_L_isRestacked (l : Launch) (hflags : l.stackTraces = false) (g : xg) (sz : Nat) (aR aG aP aH aY aT aS aF aX aYh aYt aYc aN : Nat) (pr tk tol hou sta stb : Int) (ht yt yc F : Int → Int) (hb_ht : bnd ht 0 12) (hsta : 0 ≤ sta ∧ sta ≤ 2) (hstb : 0 ≤ stb ∧ stb ≤ 2) (hF10 : F (10 + sta) = ht sta) (hF10b : F (10 + stb) = ht stb) (hFt : 0 < ht sta → F (1818 + 24 * sta + 2 * ht sta) = yt (sta * 12 + ht sta - 1) ∧ F (1818 + 24 * sta + 2 * ht sta + 1) = yc (sta * 12 + ht sta - 1)) : Met l yL_isRestacked wsL_isRestacked { frames := 9, cells := 4, slots := 24, locals := 159 } (va_Pc [.ref aR, .ref aN, .int (iI sta), .int (iI stb)] (xB g [(aR, .inr (11, [.ref aG, .ref aP, .ref aH, .ref aY, .ref aT, .ref aS, .ref aF, .ref aX, .int (iI pr), .int (iI tk), .int (iI tol), .int (iI hou)])), (aY, .inr (10, [.ref aYh, .ref aYt, .ref aYc])), (aYh, .inl (gI g, 3, .inl (ar ht))), (aYt, .inl (gI g, 36, .inl (ar yt))), (aYc, .inl (gI g, 36, .inl (ar yc))), (aN, .inl (gI g, 1960, .inl (ar F)))] sz)) (va_Qi (fun r u => r = iI ((fun (u : (Int → Int)) => bI (True)) u) ∧ (fun (u : (Int → Int)) => agr u (if reT ht sta stb = 0 then rkF F sta stb (ht sta) (up ht sta (ht sta - 1) stb) (yt (sta * 12 + ht sta - 1)) (yc (sta * 12 + ht sta - 1)) else F)) u) (fun u t => xE g (va_A [(aR, .inr (11, [.ref aG, .ref aP, .ref aH, .ref aY, .ref aT, .ref aS, .ref aF, .ref aX, .int (iI pr), .int (iI tk), .int (iI tol), .int (iI hou)])), (aY, .inr (10, [.ref aYh, .ref aYt, .ref aYc])), (aYh, .inl (gI g, 3, .inl (ar ht))), (aYt, .inl (gI g, 36, .inl (ar yt))), (aYc, .inl (gI g, 36, .inl (ar yc))), (aN, .inl (gI g, 1960, .inl (ar F)))] sz) ((fun (u : (Int → Int)) => [(aR, .inr (11, [.ref aG, .ref aP, .ref aH, .ref aY, .ref aT, .ref aS, .ref aF, .ref aX, .int (iI pr), .int (iI tk), .int (iI tol), .int (iI hou)])), (aY, .inr (10, [.ref aYh, .ref aYt, .ref aYc])), (aYh, .inl (gI g, 3, .inl (ar (if reT ht sta stb = 0 then (rsH ht sta stb) else ht)))), (aYt, .inl (gI g, 36, .inl (ar (if reT ht sta stb = 0 then (rsF ht yt sta stb) else yt)))), (aYc, .inl (gI g, 36, .inl (ar (if reT ht sta stb = 0 then (rsF ht yc sta stb) else yc)))), (aN, .inl (gI g, 1960, .inl (ar u)))]) u) t) (va_A [(aR, .inr (11, [.ref aG, .ref aP, .ref aH, .ref aY, .ref aT, .ref aS, .ref aF, .ref aX, .int (iI pr), .int (iI tk), .int (iI tol), .int (iI hou)])), (aY, .inr (10, [.ref aYh, .ref aYt, .ref aYc])), (aYh, .inl (gI g, 3, .inl (ar ht))), (aYt, .inl (gI g, 36, .inl (ar yt))), (aYc, .inl (gI g, 36, .inl (ar yc))), (aN, .inl (gI g, 1960, .inl (ar F)))] sz)) 4 24 (va_A [(aR, .inr (11, [.ref aG, .ref aP, .ref aH, .ref aY, .ref aT, .ref aS, .ref aF, .ref aX, .int (iI pr), .int (iI tk), .int (iI tol), .int (iI hou)])), (aY, .inr (10, [.ref aYh, .ref aYt, .ref aYc])), (aYh, .inl (gI g, 3, .inl (ar ht))), (aYt, .inl (gI g, 36, .inl (ar yt))), (aYc, .inl (gI g, 36, .inl (ar yc))), (aN, .inl (gI g, 1960, .inl (ar F)))] sz) := by
  refine x_enter (y := yL_isRestacked) (ws := wsL_isRestacked) (g := g) (sz := sz) (av := [.ref aR, .ref aN, .int (iI sta), .int (iI stb)]) (WS := [(aR, .inr (11, [.ref aG, .ref aP, .ref aH, .ref aY, .ref aT, .ref aS, .ref aF, .ref aX, .int (iI pr), .int (iI tk), .int (iI tol), .int (iI hou)])), (aY, .inr (10, [.ref aYh, .ref aYt, .ref aYc])), (aYh, .inl (gI g, 3, .inl (ar ht))), (aYt, .inl (gI g, 36, .inl (ar yt))), (aYc, .inl (gI g, 36, .inl (ar yc))), (aN, .inl (gI g, 1960, .inl (ar F)))]) (cc := cL_isRestacked) (maxL := 6) (ret := some .boolean) (Qc := (fun A => (va_Qi (fun r u => r = iI ((fun (u : (Int → Int)) => bI (True)) u) ∧ (fun (u : (Int → Int)) => agr u (if reT ht sta stb = 0 then rkF F sta stb (ht sta) (up ht sta (ht sta - 1) stb) (yt (sta * 12 + ht sta - 1)) (yc (sta * 12 + ht sta - 1)) else F)) u) (fun u t => xE g A ((fun (u : (Int → Int)) => [(aR, .inr (11, [.ref aG, .ref aP, .ref aH, .ref aY, .ref aT, .ref aS, .ref aF, .ref aX, .int (iI pr), .int (iI tk), .int (iI tol), .int (iI hou)])), (aY, .inr (10, [.ref aYh, .ref aYt, .ref aYc])), (aYh, .inl (gI g, 3, .inl (ar (if reT ht sta stb = 0 then (rsH ht sta stb) else ht)))), (aYt, .inl (gI g, 36, .inl (ar (if reT ht sta stb = 0 then (rsF ht yt sta stb) else yt)))), (aYc, .inl (gI g, 36, .inl (ar (if reT ht sta stb = 0 then (rsF ht yc sta stb) else yc)))), (aN, .inl (gI g, 1960, .inl (ar u)))]) u) t) A))) (by decide) rfl (Nat.le_of_ble_eq_true rfl) ?_
  intro p e s m args below meth c A ls hx hb hr hml hown hts hlocks hname hC hP hD hS hA hl
  have hK := hC.1
  have hown : s.vm.findClass RL = some m.cls := hown
  have hl : lv_has ls 6 [(0, .ref aR), (1, .ref aN), (2, .int (iI sta)), (3, .int (iI stb))] := hl
  obtain ⟨H, hH⟩ : ∃ z, z = s.heap := ⟨_, rfl⟩
  obtain ⟨locs, hlo⟩ : ∃ z : List Loc, z = [] := ⟨_, rfl⟩
  obtain ⟨Q9, hQ9⟩ : ∃ z, z = MQ below (va_Qi (fun r u => r = iI ((fun (u : (Int → Int)) => bI (True)) u) ∧ (fun (u : (Int → Int)) => agr u (if reT ht sta stb = 0 then rkF F sta stb (ht sta) (up ht sta (ht sta - 1) stb) (yt (sta * 12 + ht sta - 1)) (yc (sta * 12 + ht sta - 1)) else F)) u) (fun u t => xE g A ((fun (u : (Int → Int)) => [(aR, .inr (11, [.ref aG, .ref aP, .ref aH, .ref aY, .ref aT, .ref aS, .ref aF, .ref aX, .int (iI pr), .int (iI tk), .int (iI tol), .int (iI hou)])), (aY, .inr (10, [.ref aYh, .ref aYt, .ref aYc])), (aYh, .inl (gI g, 3, .inl (ar (if reT ht sta stb = 0 then (rsH ht sta stb) else ht)))), (aYt, .inl (gI g, 36, .inl (ar (if reT ht sta stb = 0 then (rsF ht yt sta stb) else yt)))), (aYc, .inl (gI g, 36, .inl (ar (if reT ht sta stb = 0 then (rsF ht yc sta stb) else yc)))), (aN, .inl (gI g, 1960, .inl (ar u)))]) u) t) A) args s 4 24 A := ⟨_, rfl⟩
  have hP : va_P (gD g) vwCl [(aR, .inr (11, [.ref aG, .ref aP, .ref aH, .ref aY, .ref aT, .ref aS, .ref aF, .ref aX, .int (iI pr), .int (iI tk), .int (iI tol), .int (iI hou)])), (aY, .inr (10, [.ref aYh, .ref aYt, .ref aYc])), (aYh, .inl (gI g, 3, .inl (ar ht))), (aYt, .inl (gI g, 36, .inl (ar yt))), (aYc, .inl (gI g, 36, .inl (ar yc))), (aN, .inl (gI g, 1960, .inl (ar F)))] H := by rw [hH]; exact hP
  have hS : va_S A s.heap H locs := by rw [hH, hlo]; exact hS
  have goal_ : W p l e { frames := 9, cells := 4, slots := 24, locals := 159 } s m args below meth c H locs 0 0 Q9 (F0 m 0 ls []) := by
    clear hH hlo
    have hbs := hb_ht sta
    have hbt := hb_ht stb
    refine lv_aload_n hx hb dL_isRestacked_0 rfl (lv_at hl 1 rfl) ?_
    refine x_bipush hx hb dL_isRestacked_1 (by decide) ?_
    refine lv_iload_n hx hb dL_isRestacked_3 rfl (lv_at hl 2 rfl) ?_
    refine x_iadd hx hb dL_isRestacked_4 ?_
    refine x_iald hx hb hK hP 5 0 rfl rfl (by omega) (by omega) (Nat.le_of_ble_eq_true rfl) dL_isRestacked_5 (fun v_1 hv_1 => ?_)
    refine x_top (show v_1 = ht sta by
        first
        | (
           omega)
        | fail "q9") ?_
    refine x_if_eq (tgt := 25) hx hb (by omega) dL_isRestacked_6 (by decide) (fun c_2 => ?_) (fun c_2 => ?_)
    · skip
      refine lv_aload_n hx hb dL_isRestacked_25 rfl (lv_at hl 0 rfl) ?_
      refine lv_iload_n hx hb dL_isRestacked_26 rfl (lv_at hl 2 rfl) ?_
      refine lv_iload_n hx hb dL_isRestacked_27 rfl (lv_at hl 3 rfl) ?_
      refine x_calli (S := Unit) (wc := [(aR, .inr (11, [.ref aG, .ref aP, .ref aH, .ref aY, .ref aT, .ref aS, .ref aF, .ref aX, .int (iI pr), .int (iI tk), .int (iI tol), .int (iI hou)])), (aY, .inr (10, [.ref aYh, .ref aYt, .ref aYc])), (aYh, .inl (gI g, 3, .inl (ar ht))), (aYt, .inl (gI g, 36, .inl (ar yt))), (aYc, .inl (gI g, 36, .inl (ar yc)))]) (wr := [(aN, .inl (gI g, 1960, .inl (ar F)))]) hC hP hD hS hA [0, 1, 2, 3, 4] [5] [1, 2, 3, 4, 5, 0] rfl rfl (fun hpre => vx_runSW (As := [.ref aR, .int (iI sta), .int (iI stb)]) (rest := []) ⟨hx, hb, hml, hown, hts⟩ (c_L_restack l hflags g H.size aR aG aP aH aY aT aS aF aX aYh aYt aYc pr tk tol hou sta stb ht yt yc (by first | (first | assumption | omega | exact bnd_up (by assumption) (by omega) (by omega)) | fail "q8") (by first | (first | assumption | omega | exact bnd_up (by assumption) (by omega) (by omega)) | fail "q8") (by first | (first | assumption | omega | exact bnd_up (by assumption) (by omega) (by omega)) | fail "q8")) (vx_cwSW 3 hts gL_isRestacked_L_restack rfl rfl rfl (by decide +kernel) ⟨Nat.le_of_ble_eq_true rfl, Nat.le_of_ble_eq_true rfl⟩) ⟨xB_blind, hpre _⟩ rfl rfl hl.1 rfl (lv_room (Nat.le_of_ble_eq_true rfl)) dL_isRestacked_28 ⟨Nat.le_of_ble_eq_true rfl, Nat.le_of_ble_eq_true rfl⟩) (fun (u : Unit) => [(aR, .inr (11, [.ref aG, .ref aP, .ref aH, .ref aY, .ref aT, .ref aS, .ref aF, .ref aX, .int (iI pr), .int (iI tk), .int (iI tol), .int (iI hou)])), (aY, .inr (10, [.ref aYh, .ref aYt, .ref aYc])), (aYh, .inl (gI g, 3, .inl (ar (if reT ht sta stb = 0 then (rsH ht sta stb) else ht)))), (aYt, .inl (gI g, 36, .inl (ar (if reT ht sta stb = 0 then (rsF ht yt sta stb) else yt)))), (aYc, .inl (gI g, 36, .inl (ar (if reT ht sta stb = 0 then (rsF ht yc sta stb) else yc)))), (aN, .inl (gI g, 1960, .inl (ar F)))]) rfl rfl (by decide) (fun _ => rfl) rfl (fun u v_3 H locs hv_3 pv_3 hP hD hS => ?_)
      have hP : va_P (gD g) vwCl [(aR, .inr (11, [.ref aG, .ref aP, .ref aH, .ref aY, .ref aT, .ref aS, .ref aF, .ref aX, .int (iI pr), .int (iI tk), .int (iI tol), .int (iI hou)])), (aY, .inr (10, [.ref aYh, .ref aYt, .ref aYc])), (aYh, .inl (gI g, 3, .inl (ar (if reT ht sta stb = 0 then (rsH ht sta stb) else ht)))), (aYt, .inl (gI g, 36, .inl (ar (if reT ht sta stb = 0 then (rsF ht yt sta stb) else yt)))), (aYc, .inl (gI g, 36, .inl (ar (if reT ht sta stb = 0 then (rsF ht yc sta stb) else yc)))), (aN, .inl (gI g, 1960, .inl (ar F)))] H := hP
      have hD : va_D A [(aR, .inr (11, [.ref aG, .ref aP, .ref aH, .ref aY, .ref aT, .ref aS, .ref aF, .ref aX, .int (iI pr), .int (iI tk), .int (iI tol), .int (iI hou)])), (aY, .inr (10, [.ref aYh, .ref aYt, .ref aYc])), (aYh, .inl (gI g, 3, .inl (ar (if reT ht sta stb = 0 then (rsH ht sta stb) else ht)))), (aYt, .inl (gI g, 36, .inl (ar (if reT ht sta stb = 0 then (rsF ht yt sta stb) else yt)))), (aYc, .inl (gI g, 36, .inl (ar (if reT ht sta stb = 0 then (rsF ht yc sta stb) else yc)))), (aN, .inl (gI g, 1960, .inl (ar F)))] := hD
      have hv_3 : v_3 = (if reT ht sta stb = 0 then rsH ht sta stb stb else -900000 - reT ht sta stb) := hv_3
      have hT : reT ht sta stb = (if ht sta = 0 then 2 else 3) := by unfold reT; omega
      refine lv_aload_n hx hb dL_isRestacked_31 rfl (lv_at hl 1 rfl) ?_
      refine x_bipush hx hb dL_isRestacked_32 (by decide) ?_
      refine lv_iload_n hx hb dL_isRestacked_34 rfl (lv_at hl 2 rfl) ?_
      refine x_iadd hx hb dL_isRestacked_35 ?_
      refine x_iald hx hb hK hP 5 0 rfl rfl (by omega) (by omega) (Nat.le_of_ble_eq_true rfl) dL_isRestacked_36 (fun v_4 hv_4 => ?_)
      refine x_top (show v_4 = ht sta by
          first
          | (
             omega)
          | fail "q9") ?_
      refine x_if_ne (tgt := 45) hx hb (by omega) dL_isRestacked_37 (by decide) (fun c_5 => ?_) (fun c_5 => ?_)
      · skip
        refine x_ldc (v := -900003) hx hb hown (hts (.constant RL 30 (-900003)) (List.mem_of_getElem? (i := 2) rfl)) (by decide) dL_isRestacked_45 ?_
        refine x_cmp_ne (tgt := 54) hx hb (by omega) (by omega) dL_isRestacked_47 (by decide) (fun c_6 => ?_) (fun c_6 => ?_)
        · skip
          exfalso
          first
          | (
             omega)
          | fail "q9"
        · skip
          refine x_iconst hx hb dL_isRestacked_50 ?_
          refine lv_goto (tgt := 55) hx hb dL_isRestacked_51 (by decide) ?_
          rw [hQ9]
          exact x_iret hx hb hr hlocks hP hD hS (S := (Int → Int)) (by decide) dL_isRestacked_55 F (by
              first
              | (
                 exact (bI_t True.intro).symm)
              | fail "q9") (by
              first
              | (
                 first | (rw [if_pos hT]; rw [← hh3e]; intro j hj; simp only [rkF]; by_cases qa : j = 10 + stb; ((repeat (first | rw [up_at _ _ (by omega)] | rw [up_ne _ _ (by omega)] | rw [if_pos (by omega)] | rw [if_neg (by omega)])); try omega); by_cases qb : j = 10 + sta; ((repeat (first | rw [up_at _ _ (by omega)] | rw [up_ne _ _ (by omega)] | rw [if_pos (by omega)] | rw [if_neg (by omega)])); try omega); by_cases qc : j = 1820 + 24 * stb + 2 * h3; ((repeat (first | rw [up_at _ _ (by omega)] | rw [up_ne _ _ (by omega)] | rw [if_pos (by omega)] | rw [if_neg (by omega)])); try omega); by_cases qd : j = 1821 + 24 * stb + 2 * h3; ((repeat (first | rw [up_at _ _ (by omega)] | rw [up_ne _ _ (by omega)] | rw [if_pos (by omega)] | rw [if_neg (by omega)])); try omega); ((repeat (first | rw [up_at _ _ (by omega)] | rw [up_ne _ _ (by omega)] | rw [if_pos (by omega)] | rw [if_neg (by omega)])); try omega)) | (rw [if_neg (by omega)]; exact agr_r _))
              | fail "q9") rfl (Nat.le_of_ble_eq_true rfl) (Nat.le_of_ble_eq_true rfl)
      · skip
        refine x_ldc (v := -900002) hx hb hown (hts (.constant RL 20 (-900002)) (List.mem_of_getElem? (i := 1) rfl)) (by decide) dL_isRestacked_40 ?_
        refine lv_goto (tgt := 47) hx hb dL_isRestacked_42 (by decide) ?_
        refine x_cmp_ne (tgt := 54) hx hb (by omega) (by omega) dL_isRestacked_47 (by decide) (fun c_7 => ?_) (fun c_7 => ?_)
        · skip
          exfalso
          first
          | (
             omega)
          | fail "q9"
        · skip
          refine x_iconst hx hb dL_isRestacked_50 ?_
          refine lv_goto (tgt := 55) hx hb dL_isRestacked_51 (by decide) ?_
          rw [hQ9]
          exact x_iret hx hb hr hlocks hP hD hS (S := (Int → Int)) (by decide) dL_isRestacked_55 F (by
              first
              | (
                 exact (bI_t True.intro).symm)
              | fail "q9") (by
              first
              | (
                 first | (rw [if_pos hT]; rw [← hh3e]; intro j hj; simp only [rkF]; by_cases qa : j = 10 + stb; ((repeat (first | rw [up_at _ _ (by omega)] | rw [up_ne _ _ (by omega)] | rw [if_pos (by omega)] | rw [if_neg (by omega)])); try omega); by_cases qb : j = 10 + sta; ((repeat (first | rw [up_at _ _ (by omega)] | rw [up_ne _ _ (by omega)] | rw [if_pos (by omega)] | rw [if_neg (by omega)])); try omega); by_cases qc : j = 1820 + 24 * stb + 2 * h3; ((repeat (first | rw [up_at _ _ (by omega)] | rw [up_ne _ _ (by omega)] | rw [if_pos (by omega)] | rw [if_neg (by omega)])); try omega); by_cases qd : j = 1821 + 24 * stb + 2 * h3; ((repeat (first | rw [up_at _ _ (by omega)] | rw [up_ne _ _ (by omega)] | rw [if_pos (by omega)] | rw [if_neg (by omega)])); try omega); ((repeat (first | rw [up_at _ _ (by omega)] | rw [up_ne _ _ (by omega)] | rw [if_pos (by omega)] | rw [if_neg (by omega)])); try omega)) | (rw [if_neg (by omega)]; exact agr_r _))
              | fail "q9") rfl (Nat.le_of_ble_eq_true rfl) (Nat.le_of_ble_eq_true rfl)
    · skip
      refine lv_iload_n hx hb dL_isRestacked_9 rfl (lv_at hl 2 rfl) ?_
      refine lv_iload_n hx hb dL_isRestacked_10 rfl (lv_at hl 3 rfl) ?_
      refine x_cmp_eq (tgt := 56) hx hb (by omega) (by omega) dL_isRestacked_11 (by decide) (fun c_8 => ?_) (fun c_8 => ?_)
      · skip
        rcases (show sta = stb ∨ sta ≠ stb by omega) with hcut | hcut
        · skip
          have hT : reT ht sta stb = 0 := by unfold reT; omega
          have hFt2 := hFt (by omega)
          obtain ⟨h3, hh3e⟩ : ∃ z, z = up ht sta (ht sta - 1) stb := ⟨_, rfl⟩
          have hh3 : 0 ≤ h3 ∧ h3 < 12 := by rw [hh3e]; simp only [up]; omega
          have hrs : rsH ht sta stb stb = h3 + 1 := by unfold rsH; rw [up_eq, hh3e]
          refine lv_aload_n hx hb dL_isRestacked_56 rfl (lv_at hl 1 rfl) ?_
          refine lv_aload_n hx hb dL_isRestacked_57 rfl (lv_at hl 1 rfl) ?_
          refine lv_iload_n hx hb dL_isRestacked_58 rfl (lv_at hl 2 rfl) ?_
          refine x_calli (S := Unit) (wc := [(aN, .inl (gI g, 1960, .inl (ar F)))]) (wr := [(aR, .inr (11, [.ref aG, .ref aP, .ref aH, .ref aY, .ref aT, .ref aS, .ref aF, .ref aX, .int (iI pr), .int (iI tk), .int (iI tol), .int (iI hou)])), (aY, .inr (10, [.ref aYh, .ref aYt, .ref aYc])), (aYh, .inl (gI g, 3, .inl (ar ht))), (aYt, .inl (gI g, 36, .inl (ar yt))), (aYc, .inl (gI g, 36, .inl (ar yc)))]) hC hP hD hS hA [5] [0, 1, 2, 3, 4] [0, 1, 2, 3, 4, 5] rfl rfl (fun hpre => va_runS (As := [.ref aN, .int (iI sta)]) (rest := [.ref aN]) ⟨hx, hb, hml, hown, hts⟩ (c_L_topOf l g H.size aN sta F (by first | (first | assumption | omega | exact bnd_up (by assumption) (by omega) (by omega)) | fail "q8")) (va_cwS 2 hts gL_isRestacked_L_topOf rfl rfl rfl (by decide +kernel) ⟨Nat.le_of_ble_eq_true rfl, Nat.le_of_ble_eq_true rfl⟩) ⟨xB_blind, hpre _⟩ rfl rfl hl.1 rfl (lv_room (Nat.le_of_ble_eq_true rfl)) dL_isRestacked_59 ⟨Nat.le_of_ble_eq_true rfl, Nat.le_of_ble_eq_true rfl⟩) (fun (u : Unit) => [(aR, .inr (11, [.ref aG, .ref aP, .ref aH, .ref aY, .ref aT, .ref aS, .ref aF, .ref aX, .int (iI pr), .int (iI tk), .int (iI tol), .int (iI hou)])), (aY, .inr (10, [.ref aYh, .ref aYt, .ref aYc])), (aYh, .inl (gI g, 3, .inl (ar ht))), (aYt, .inl (gI g, 36, .inl (ar yt))), (aYc, .inl (gI g, 36, .inl (ar yc))), (aN, .inl (gI g, 1960, .inl (ar F)))]) rfl rfl (by decide) (fun _ => rfl) rfl (fun u v_9 H locs hv_9 pv_9 hP hD hS => ?_)
          have hP : va_P (gD g) vwCl [(aR, .inr (11, [.ref aG, .ref aP, .ref aH, .ref aY, .ref aT, .ref aS, .ref aF, .ref aX, .int (iI pr), .int (iI tk), .int (iI tol), .int (iI hou)])), (aY, .inr (10, [.ref aYh, .ref aYt, .ref aYc])), (aYh, .inl (gI g, 3, .inl (ar ht))), (aYt, .inl (gI g, 36, .inl (ar yt))), (aYc, .inl (gI g, 36, .inl (ar yc))), (aN, .inl (gI g, 1960, .inl (ar F)))] H := hP
          have hD : va_D A [(aR, .inr (11, [.ref aG, .ref aP, .ref aH, .ref aY, .ref aT, .ref aS, .ref aF, .ref aX, .int (iI pr), .int (iI tk), .int (iI tol), .int (iI hou)])), (aY, .inr (10, [.ref aYh, .ref aYt, .ref aYc])), (aYh, .inl (gI g, 3, .inl (ar ht))), (aYt, .inl (gI g, 36, .inl (ar yt))), (aYc, .inl (gI g, 36, .inl (ar yc))), (aN, .inl (gI g, 1960, .inl (ar F)))] := hD
          have hv_9 : v_9 = 1818 + 24 * sta + 2 * F (10 + sta) := hv_9
          have yv_9 : v_9 = 1818 + 24 * sta + 2 * ht sta := by
              first
              | (
                 rw [hv_9]
                 (repeat (first | rw [up_at _ _ (by omega)] | rw [up_ne _ _ (by omega)]))
                 omega)
              | fail "q9"
          refine x_top yv_9 ?_
          refine x_iald hx hb hK hP 5 0 rfl rfl (by omega) (by omega) (Nat.le_of_ble_eq_true rfl) dL_isRestacked_62 (fun v_10 hv_10 => ?_)
          refine x_top (show v_10 = yt (sta * 12 + ht sta - 1) by
              first
              | (
                 rw [hv_10]; exact hFt2.1)
              | fail "q9") ?_
          obtain ⟨v_11, ev_11⟩ : ∃ z : Int, z = yt (sta * 12 + ht sta - 1) := ⟨_, rfl⟩
          refine x_top ev_11.symm ?_
          refine lv_istore (lv' := [(4, .int (iI v_11)), (0, .ref aR), (1, .ref aN), (2, .int (iI sta)), (3, .int (iI stb))]) hx hb dL_isRestacked_63 hl (by decide) rfl (fun ls hl => ?_)
          refine lv_aload_n hx hb dL_isRestacked_65 rfl (lv_at hl 2 rfl) ?_
          refine lv_aload_n hx hb dL_isRestacked_66 rfl (lv_at hl 2 rfl) ?_
          refine lv_iload_n hx hb dL_isRestacked_67 rfl (lv_at hl 3 rfl) ?_
          refine x_calli (S := Unit) (wc := [(aN, .inl (gI g, 1960, .inl (ar F)))]) (wr := [(aR, .inr (11, [.ref aG, .ref aP, .ref aH, .ref aY, .ref aT, .ref aS, .ref aF, .ref aX, .int (iI pr), .int (iI tk), .int (iI tol), .int (iI hou)])), (aY, .inr (10, [.ref aYh, .ref aYt, .ref aYc])), (aYh, .inl (gI g, 3, .inl (ar ht))), (aYt, .inl (gI g, 36, .inl (ar yt))), (aYc, .inl (gI g, 36, .inl (ar yc)))]) hC hP hD hS hA [5] [0, 1, 2, 3, 4] [0, 1, 2, 3, 4, 5] rfl rfl (fun hpre => va_runS (As := [.ref aN, .int (iI sta)]) (rest := [.ref aN]) ⟨hx, hb, hml, hown, hts⟩ (c_L_topOf l g H.size aN sta F (by first | (first | assumption | omega | exact bnd_up (by assumption) (by omega) (by omega)) | fail "q8")) (va_cwS 2 hts gL_isRestacked_L_topOf rfl rfl rfl (by decide +kernel) ⟨Nat.le_of_ble_eq_true rfl, Nat.le_of_ble_eq_true rfl⟩) ⟨xB_blind, hpre _⟩ rfl rfl hl.1 rfl (lv_room (Nat.le_of_ble_eq_true rfl)) dL_isRestacked_68 ⟨Nat.le_of_ble_eq_true rfl, Nat.le_of_ble_eq_true rfl⟩) (fun (u : Unit) => [(aR, .inr (11, [.ref aG, .ref aP, .ref aH, .ref aY, .ref aT, .ref aS, .ref aF, .ref aX, .int (iI pr), .int (iI tk), .int (iI tol), .int (iI hou)])), (aY, .inr (10, [.ref aYh, .ref aYt, .ref aYc])), (aYh, .inl (gI g, 3, .inl (ar ht))), (aYt, .inl (gI g, 36, .inl (ar yt))), (aYc, .inl (gI g, 36, .inl (ar yc))), (aN, .inl (gI g, 1960, .inl (ar F)))]) rfl rfl (by decide) (fun _ => rfl) rfl (fun u v_12 H locs hv_12 pv_12 hP hD hS => ?_)
          have hP : va_P (gD g) vwCl [(aR, .inr (11, [.ref aG, .ref aP, .ref aH, .ref aY, .ref aT, .ref aS, .ref aF, .ref aX, .int (iI pr), .int (iI tk), .int (iI tol), .int (iI hou)])), (aY, .inr (10, [.ref aYh, .ref aYt, .ref aYc])), (aYh, .inl (gI g, 3, .inl (ar ht))), (aYt, .inl (gI g, 36, .inl (ar yt))), (aYc, .inl (gI g, 36, .inl (ar yc))), (aN, .inl (gI g, 1960, .inl (ar F)))] H := hP
          have hD : va_D A [(aR, .inr (11, [.ref aG, .ref aP, .ref aH, .ref aY, .ref aT, .ref aS, .ref aF, .ref aX, .int (iI pr), .int (iI tk), .int (iI tol), .int (iI hou)])), (aY, .inr (10, [.ref aYh, .ref aYt, .ref aYc])), (aYh, .inl (gI g, 3, .inl (ar ht))), (aYt, .inl (gI g, 36, .inl (ar yt))), (aYc, .inl (gI g, 36, .inl (ar yc))), (aN, .inl (gI g, 1960, .inl (ar F)))] := hD
          have hv_12 : v_12 = 1818 + 24 * sta + 2 * F (10 + sta) := hv_12
          have yv_12 : v_12 = 1818 + 24 * sta + 2 * ht sta := by
              first
              | (
                 rw [hv_12]
                 (repeat (first | rw [up_at _ _ (by omega)] | rw [up_ne _ _ (by omega)]))
                 omega)
              | fail "q9"
          refine x_top yv_12 ?_
          refine x_iconst hx hb dL_isRestacked_71 ?_
          refine x_iadd hx hb dL_isRestacked_72 ?_
          refine x_iald hx hb hK hP 5 0 rfl rfl (by omega) (by omega) (Nat.le_of_ble_eq_true rfl) dL_isRestacked_73 (fun v_13 hv_13 => ?_)
          refine x_top (show v_13 = yc (sta * 12 + ht sta - 1) by
              first
              | (
                 rw [hv_13]; exact hFt2.2)
              | fail "q9") ?_
          obtain ⟨v_14, ev_14⟩ : ∃ z : Int, z = yc (sta * 12 + ht sta - 1) := ⟨_, rfl⟩
          refine x_top ev_14.symm ?_
          refine lv_istore (lv' := [(5, .int (iI v_14)), (4, .int (iI v_11)), (0, .ref aR), (1, .ref aN), (2, .int (iI sta)), (3, .int (iI stb))]) hx hb dL_isRestacked_74 hl (by decide) rfl (fun ls hl => ?_)
          refine lv_aload_n hx hb dL_isRestacked_76 rfl (lv_at hl 3 rfl) ?_
          refine x_bipush hx hb dL_isRestacked_77 (by decide) ?_
          refine lv_iload_n hx hb dL_isRestacked_79 rfl (lv_at hl 4 rfl) ?_
          refine x_iadd hx hb dL_isRestacked_80 ?_
          refine lv_dup2_11 hx hb dL_isRestacked_81 rfl rfl ?_
          refine x_iald hx hb hK hP 5 0 rfl rfl (by omega) (by omega) (Nat.le_of_ble_eq_true rfl) dL_isRestacked_82 (fun v_15 hv_15 => ?_)
          refine x_top (show v_15 = ht sta by
              first
              | (
                 omega)
              | fail "q9") ?_
          refine x_iconst hx hb dL_isRestacked_83 ?_
          refine x_isub hx hb dL_isRestacked_84 ?_
          obtain ⟨v_16, ev_16⟩ : ∃ z : Int, z = (ht sta) - 1 := ⟨_, rfl⟩
          refine x_top ev_16.symm ?_
          refine x_iast hx hb hK hP hD hS 5 0 rfl rfl (by omega) (by omega) (Nat.le_of_ble_eq_true rfl) dL_isRestacked_85 (fun H locs hP hD hS => ?_)
          have hP : va_P (gD g) vwCl [(aR, .inr (11, [.ref aG, .ref aP, .ref aH, .ref aY, .ref aT, .ref aS, .ref aF, .ref aX, .int (iI pr), .int (iI tk), .int (iI tol), .int (iI hou)])), (aY, .inr (10, [.ref aYh, .ref aYt, .ref aYc])), (aYh, .inl (gI g, 3, .inl (ar ht))), (aYt, .inl (gI g, 36, .inl (ar yt))), (aYc, .inl (gI g, 36, .inl (ar yc))), (aN, .inl (gI g, 1960, .inl (ar (up F (10 + sta) v_16))))] H := hP
          have hD : va_D A [(aR, .inr (11, [.ref aG, .ref aP, .ref aH, .ref aY, .ref aT, .ref aS, .ref aF, .ref aX, .int (iI pr), .int (iI tk), .int (iI tol), .int (iI hou)])), (aY, .inr (10, [.ref aYh, .ref aYt, .ref aYc])), (aYh, .inl (gI g, 3, .inl (ar ht))), (aYt, .inl (gI g, 36, .inl (ar yt))), (aYc, .inl (gI g, 36, .inl (ar yc))), (aN, .inl (gI g, 1960, .inl (ar (up F (10 + sta) v_16))))] := hD
          refine lv_aload_n hx hb dL_isRestacked_86 rfl (lv_at hl 3 rfl) ?_
          refine x_bipush hx hb dL_isRestacked_87 (by decide) ?_
          refine lv_iload_n hx hb dL_isRestacked_89 rfl (lv_at hl 5 rfl) ?_
          refine x_iadd hx hb dL_isRestacked_90 ?_
          refine lv_dup2_11 hx hb dL_isRestacked_91 rfl rfl ?_
          refine x_iald hx hb hK hP 5 0 rfl rfl (by omega) (by omega) (Nat.le_of_ble_eq_true rfl) dL_isRestacked_92 (fun v_17 hv_17 => ?_)
          (repeat (first | rw [up_at _ _ (by omega)] at hv_17 | rw [up_ne _ _ (by omega)] at hv_17))
          refine x_top (show v_17 = h3 by
              first
              | (
                 rw [hh3e]
                 simp only [up]
                 omega)
              | fail "q9") ?_
          refine x_iconst hx hb dL_isRestacked_93 ?_
          refine x_iadd hx hb dL_isRestacked_94 ?_
          obtain ⟨v_18, ev_18⟩ : ∃ z : Int, z = h3 + 1 := ⟨_, rfl⟩
          refine x_top ev_18.symm ?_
          refine x_iast hx hb hK hP hD hS 5 0 rfl rfl (by omega) (by omega) (Nat.le_of_ble_eq_true rfl) dL_isRestacked_95 (fun H locs hP hD hS => ?_)
          have hP : va_P (gD g) vwCl [(aR, .inr (11, [.ref aG, .ref aP, .ref aH, .ref aY, .ref aT, .ref aS, .ref aF, .ref aX, .int (iI pr), .int (iI tk), .int (iI tol), .int (iI hou)])), (aY, .inr (10, [.ref aYh, .ref aYt, .ref aYc])), (aYh, .inl (gI g, 3, .inl (ar ht))), (aYt, .inl (gI g, 36, .inl (ar yt))), (aYc, .inl (gI g, 36, .inl (ar yc))), (aN, .inl (gI g, 1960, .inl (ar (up (up F (10 + sta) v_16) (10 + stb) v_18))))] H := hP
          have hD : va_D A [(aR, .inr (11, [.ref aG, .ref aP, .ref aH, .ref aY, .ref aT, .ref aS, .ref aF, .ref aX, .int (iI pr), .int (iI tk), .int (iI tol), .int (iI hou)])), (aY, .inr (10, [.ref aYh, .ref aYt, .ref aYc])), (aYh, .inl (gI g, 3, .inl (ar ht))), (aYt, .inl (gI g, 36, .inl (ar yt))), (aYc, .inl (gI g, 36, .inl (ar yc))), (aN, .inl (gI g, 1960, .inl (ar (up (up F (10 + sta) v_16) (10 + stb) v_18))))] := hD
          refine lv_aload_n hx hb dL_isRestacked_96 rfl (lv_at hl 3 rfl) ?_
          refine lv_aload_n hx hb dL_isRestacked_97 rfl (lv_at hl 3 rfl) ?_
          refine lv_iload_n hx hb dL_isRestacked_98 rfl (lv_at hl 5 rfl) ?_
          refine x_calli (S := Unit) (wc := [(aN, .inl (gI g, 1960, .inl (ar (up (up F (10 + sta) v_16) (10 + stb) v_18))))]) (wr := [(aR, .inr (11, [.ref aG, .ref aP, .ref aH, .ref aY, .ref aT, .ref aS, .ref aF, .ref aX, .int (iI pr), .int (iI tk), .int (iI tol), .int (iI hou)])), (aY, .inr (10, [.ref aYh, .ref aYt, .ref aYc])), (aYh, .inl (gI g, 3, .inl (ar ht))), (aYt, .inl (gI g, 36, .inl (ar yt))), (aYc, .inl (gI g, 36, .inl (ar yc)))]) hC hP hD hS hA [5] [0, 1, 2, 3, 4] [0, 1, 2, 3, 4, 5] rfl rfl (fun hpre => va_runS (As := [.ref aN, .int (iI stb)]) (rest := [.ref aN]) ⟨hx, hb, hml, hown, hts⟩ (c_L_topOf l g H.size aN stb (up (up F (10 + sta) v_16) (10 + stb) v_18) (by first | (first | assumption | omega | exact bnd_up (by assumption) (by omega) (by omega)) | fail "q8")) (va_cwS 2 hts gL_isRestacked_L_topOf rfl rfl rfl (by decide +kernel) ⟨Nat.le_of_ble_eq_true rfl, Nat.le_of_ble_eq_true rfl⟩) ⟨xB_blind, hpre _⟩ rfl rfl hl.1 rfl (lv_room (Nat.le_of_ble_eq_true rfl)) dL_isRestacked_99 ⟨Nat.le_of_ble_eq_true rfl, Nat.le_of_ble_eq_true rfl⟩) (fun (u : Unit) => [(aR, .inr (11, [.ref aG, .ref aP, .ref aH, .ref aY, .ref aT, .ref aS, .ref aF, .ref aX, .int (iI pr), .int (iI tk), .int (iI tol), .int (iI hou)])), (aY, .inr (10, [.ref aYh, .ref aYt, .ref aYc])), (aYh, .inl (gI g, 3, .inl (ar ht))), (aYt, .inl (gI g, 36, .inl (ar yt))), (aYc, .inl (gI g, 36, .inl (ar yc))), (aN, .inl (gI g, 1960, .inl (ar (up (up F (10 + sta) v_16) (10 + stb) v_18))))]) rfl rfl (by decide) (fun _ => rfl) rfl (fun u v_19 H locs hv_19 pv_19 hP hD hS => ?_)
          have hP : va_P (gD g) vwCl [(aR, .inr (11, [.ref aG, .ref aP, .ref aH, .ref aY, .ref aT, .ref aS, .ref aF, .ref aX, .int (iI pr), .int (iI tk), .int (iI tol), .int (iI hou)])), (aY, .inr (10, [.ref aYh, .ref aYt, .ref aYc])), (aYh, .inl (gI g, 3, .inl (ar ht))), (aYt, .inl (gI g, 36, .inl (ar yt))), (aYc, .inl (gI g, 36, .inl (ar yc))), (aN, .inl (gI g, 1960, .inl (ar (up (up F (10 + sta) v_16) (10 + stb) v_18))))] H := hP
          have hD : va_D A [(aR, .inr (11, [.ref aG, .ref aP, .ref aH, .ref aY, .ref aT, .ref aS, .ref aF, .ref aX, .int (iI pr), .int (iI tk), .int (iI tol), .int (iI hou)])), (aY, .inr (10, [.ref aYh, .ref aYt, .ref aYc])), (aYh, .inl (gI g, 3, .inl (ar ht))), (aYt, .inl (gI g, 36, .inl (ar yt))), (aYc, .inl (gI g, 36, .inl (ar yc))), (aN, .inl (gI g, 1960, .inl (ar (up (up F (10 + sta) v_16) (10 + stb) v_18))))] := hD
          have hv_19 : v_19 = 1818 + 24 * stb + 2 * (up (up F (10 + sta) v_16) (10 + stb) v_18) (10 + stb) := hv_19
          have yv_19 : v_19 = 1818 + 24 * stb + 2 * (h3 + 1) := by
              first
              | (
                 rw [hv_19]
                 (repeat (first | rw [up_at _ _ (by omega)] | rw [up_ne _ _ (by omega)]))
                 omega)
              | fail "q9"
          refine x_top yv_19 ?_
          refine lv_iload hx hb dL_isRestacked_102 (lv_at hl 1 rfl) ?_
          refine x_iast hx hb hK hP hD hS 5 0 rfl rfl (by omega) (by omega) (Nat.le_of_ble_eq_true rfl) dL_isRestacked_104 (fun H locs hP hD hS => ?_)
          have hP : va_P (gD g) vwCl [(aR, .inr (11, [.ref aG, .ref aP, .ref aH, .ref aY, .ref aT, .ref aS, .ref aF, .ref aX, .int (iI pr), .int (iI tk), .int (iI tol), .int (iI hou)])), (aY, .inr (10, [.ref aYh, .ref aYt, .ref aYc])), (aYh, .inl (gI g, 3, .inl (ar ht))), (aYt, .inl (gI g, 36, .inl (ar yt))), (aYc, .inl (gI g, 36, .inl (ar yc))), (aN, .inl (gI g, 1960, .inl (ar (up (up (up F (10 + sta) v_16) (10 + stb) v_18) (1818 + 24 * stb + 2 * (h3 + 1)) v_11))))] H := hP
          have hD : va_D A [(aR, .inr (11, [.ref aG, .ref aP, .ref aH, .ref aY, .ref aT, .ref aS, .ref aF, .ref aX, .int (iI pr), .int (iI tk), .int (iI tol), .int (iI hou)])), (aY, .inr (10, [.ref aYh, .ref aYt, .ref aYc])), (aYh, .inl (gI g, 3, .inl (ar ht))), (aYt, .inl (gI g, 36, .inl (ar yt))), (aYc, .inl (gI g, 36, .inl (ar yc))), (aN, .inl (gI g, 1960, .inl (ar (up (up (up F (10 + sta) v_16) (10 + stb) v_18) (1818 + 24 * stb + 2 * (h3 + 1)) v_11))))] := hD
          refine lv_aload_n hx hb dL_isRestacked_105 rfl (lv_at hl 3 rfl) ?_
          refine lv_aload_n hx hb dL_isRestacked_106 rfl (lv_at hl 3 rfl) ?_
          refine lv_iload_n hx hb dL_isRestacked_107 rfl (lv_at hl 5 rfl) ?_
          refine x_calli (S := Unit) (wc := [(aN, .inl (gI g, 1960, .inl (ar (up (up (up F (10 + sta) v_16) (10 + stb) v_18) (1818 + 24 * stb + 2 * (h3 + 1)) v_11))))]) (wr := [(aR, .inr (11, [.ref aG, .ref aP, .ref aH, .ref aY, .ref aT, .ref aS, .ref aF, .ref aX, .int (iI pr), .int (iI tk), .int (iI tol), .int (iI hou)])), (aY, .inr (10, [.ref aYh, .ref aYt, .ref aYc])), (aYh, .inl (gI g, 3, .inl (ar ht))), (aYt, .inl (gI g, 36, .inl (ar yt))), (aYc, .inl (gI g, 36, .inl (ar yc)))]) hC hP hD hS hA [5] [0, 1, 2, 3, 4] [0, 1, 2, 3, 4, 5] rfl rfl (fun hpre => va_runS (As := [.ref aN, .int (iI stb)]) (rest := [.ref aN]) ⟨hx, hb, hml, hown, hts⟩ (c_L_topOf l g H.size aN stb (up (up (up F (10 + sta) v_16) (10 + stb) v_18) (1818 + 24 * stb + 2 * (h3 + 1)) v_11) (by first | (first | assumption | omega | exact bnd_up (by assumption) (by omega) (by omega)) | fail "q8")) (va_cwS 2 hts gL_isRestacked_L_topOf rfl rfl rfl (by decide +kernel) ⟨Nat.le_of_ble_eq_true rfl, Nat.le_of_ble_eq_true rfl⟩) ⟨xB_blind, hpre _⟩ rfl rfl hl.1 rfl (lv_room (Nat.le_of_ble_eq_true rfl)) dL_isRestacked_108 ⟨Nat.le_of_ble_eq_true rfl, Nat.le_of_ble_eq_true rfl⟩) (fun (u : Unit) => [(aR, .inr (11, [.ref aG, .ref aP, .ref aH, .ref aY, .ref aT, .ref aS, .ref aF, .ref aX, .int (iI pr), .int (iI tk), .int (iI tol), .int (iI hou)])), (aY, .inr (10, [.ref aYh, .ref aYt, .ref aYc])), (aYh, .inl (gI g, 3, .inl (ar ht))), (aYt, .inl (gI g, 36, .inl (ar yt))), (aYc, .inl (gI g, 36, .inl (ar yc))), (aN, .inl (gI g, 1960, .inl (ar (up (up (up F (10 + sta) v_16) (10 + stb) v_18) (1818 + 24 * stb + 2 * (h3 + 1)) v_11))))]) rfl rfl (by decide) (fun _ => rfl) rfl (fun u v_20 H locs hv_20 pv_20 hP hD hS => ?_)
          have hP : va_P (gD g) vwCl [(aR, .inr (11, [.ref aG, .ref aP, .ref aH, .ref aY, .ref aT, .ref aS, .ref aF, .ref aX, .int (iI pr), .int (iI tk), .int (iI tol), .int (iI hou)])), (aY, .inr (10, [.ref aYh, .ref aYt, .ref aYc])), (aYh, .inl (gI g, 3, .inl (ar ht))), (aYt, .inl (gI g, 36, .inl (ar yt))), (aYc, .inl (gI g, 36, .inl (ar yc))), (aN, .inl (gI g, 1960, .inl (ar (up (up (up F (10 + sta) v_16) (10 + stb) v_18) (1818 + 24 * stb + 2 * (h3 + 1)) v_11))))] H := hP
          have hD : va_D A [(aR, .inr (11, [.ref aG, .ref aP, .ref aH, .ref aY, .ref aT, .ref aS, .ref aF, .ref aX, .int (iI pr), .int (iI tk), .int (iI tol), .int (iI hou)])), (aY, .inr (10, [.ref aYh, .ref aYt, .ref aYc])), (aYh, .inl (gI g, 3, .inl (ar ht))), (aYt, .inl (gI g, 36, .inl (ar yt))), (aYc, .inl (gI g, 36, .inl (ar yc))), (aN, .inl (gI g, 1960, .inl (ar (up (up (up F (10 + sta) v_16) (10 + stb) v_18) (1818 + 24 * stb + 2 * (h3 + 1)) v_11))))] := hD
          have hv_20 : v_20 = 1818 + 24 * stb + 2 * (up (up (up F (10 + sta) v_16) (10 + stb) v_18) (1818 + 24 * stb + 2 * (h3 + 1)) v_11) (10 + stb) := hv_20
          have yv_20 : v_20 = 1818 + 24 * stb + 2 * (h3 + 1) := by
              first
              | (
                 rw [hv_20]
                 (repeat (first | rw [up_at _ _ (by omega)] | rw [up_ne _ _ (by omega)]))
                 omega)
              | fail "q9"
          refine x_top yv_20 ?_
          refine x_iconst hx hb dL_isRestacked_111 ?_
          refine x_iadd hx hb dL_isRestacked_112 ?_
          refine lv_iload hx hb dL_isRestacked_113 (lv_at hl 0 rfl) ?_
          refine x_iast hx hb hK hP hD hS 5 0 rfl rfl (by omega) (by omega) (Nat.le_of_ble_eq_true rfl) dL_isRestacked_115 (fun H locs hP hD hS => ?_)
          have hP : va_P (gD g) vwCl [(aR, .inr (11, [.ref aG, .ref aP, .ref aH, .ref aY, .ref aT, .ref aS, .ref aF, .ref aX, .int (iI pr), .int (iI tk), .int (iI tol), .int (iI hou)])), (aY, .inr (10, [.ref aYh, .ref aYt, .ref aYc])), (aYh, .inl (gI g, 3, .inl (ar ht))), (aYt, .inl (gI g, 36, .inl (ar yt))), (aYc, .inl (gI g, 36, .inl (ar yc))), (aN, .inl (gI g, 1960, .inl (ar (up (up (up (up F (10 + sta) v_16) (10 + stb) v_18) (1818 + 24 * stb + 2 * (h3 + 1)) v_11) ((1818 + 24 * stb + 2 * (h3 + 1)) + 1) v_14))))] H := hP
          have hD : va_D A [(aR, .inr (11, [.ref aG, .ref aP, .ref aH, .ref aY, .ref aT, .ref aS, .ref aF, .ref aX, .int (iI pr), .int (iI tk), .int (iI tol), .int (iI hou)])), (aY, .inr (10, [.ref aYh, .ref aYt, .ref aYc])), (aYh, .inl (gI g, 3, .inl (ar ht))), (aYt, .inl (gI g, 36, .inl (ar yt))), (aYc, .inl (gI g, 36, .inl (ar yc))), (aN, .inl (gI g, 1960, .inl (ar (up (up (up (up F (10 + sta) v_16) (10 + stb) v_18) (1818 + 24 * stb + 2 * (h3 + 1)) v_11) ((1818 + 24 * stb + 2 * (h3 + 1)) + 1) v_14))))] := hD
          refine lv_aload_n hx hb dL_isRestacked_116 rfl (lv_at hl 2 rfl) ?_
          refine lv_iload_n hx hb dL_isRestacked_117 rfl (lv_at hl 4 rfl) ?_
          refine lv_iload_n hx hb dL_isRestacked_118 rfl (lv_at hl 5 rfl) ?_
          refine x_calli (S := Unit) (wc := [(aR, .inr (11, [.ref aG, .ref aP, .ref aH, .ref aY, .ref aT, .ref aS, .ref aF, .ref aX, .int (iI pr), .int (iI tk), .int (iI tol), .int (iI hou)])), (aY, .inr (10, [.ref aYh, .ref aYt, .ref aYc])), (aYh, .inl (gI g, 3, .inl (ar ht))), (aYt, .inl (gI g, 36, .inl (ar yt))), (aYc, .inl (gI g, 36, .inl (ar yc)))]) (wr := [(aN, .inl (gI g, 1960, .inl (ar (up (up (up (up F (10 + sta) v_16) (10 + stb) v_18) (1818 + 24 * stb + 2 * (h3 + 1)) v_11) ((1818 + 24 * stb + 2 * (h3 + 1)) + 1) v_14))))]) hC hP hD hS hA [0, 1, 2, 3, 4] [5] [1, 2, 3, 4, 5, 0] rfl rfl (fun hpre => vx_runSW (As := [.ref aR, .int (iI sta), .int (iI stb)]) (rest := []) ⟨hx, hb, hml, hown, hts⟩ (c_L_restack l hflags g H.size aR aG aP aH aY aT aS aF aX aYh aYt aYc pr tk tol hou sta stb ht yt yc (by first | (first | assumption | omega | exact bnd_up (by assumption) (by omega) (by omega)) | fail "q8") (by first | (first | assumption | omega | exact bnd_up (by assumption) (by omega) (by omega)) | fail "q8") (by first | (first | assumption | omega | exact bnd_up (by assumption) (by omega) (by omega)) | fail "q8")) (vx_cwSW 3 hts gL_isRestacked_L_restack rfl rfl rfl (by decide +kernel) ⟨Nat.le_of_ble_eq_true rfl, Nat.le_of_ble_eq_true rfl⟩) ⟨xB_blind, hpre _⟩ rfl rfl hl.1 rfl (lv_room (Nat.le_of_ble_eq_true rfl)) dL_isRestacked_119 ⟨Nat.le_of_ble_eq_true rfl, Nat.le_of_ble_eq_true rfl⟩) (fun (u : Unit) => [(aR, .inr (11, [.ref aG, .ref aP, .ref aH, .ref aY, .ref aT, .ref aS, .ref aF, .ref aX, .int (iI pr), .int (iI tk), .int (iI tol), .int (iI hou)])), (aY, .inr (10, [.ref aYh, .ref aYt, .ref aYc])), (aYh, .inl (gI g, 3, .inl (ar (if reT ht sta stb = 0 then (rsH ht sta stb) else ht)))), (aYt, .inl (gI g, 36, .inl (ar (if reT ht sta stb = 0 then (rsF ht yt sta stb) else yt)))), (aYc, .inl (gI g, 36, .inl (ar (if reT ht sta stb = 0 then (rsF ht yc sta stb) else yc)))), (aN, .inl (gI g, 1960, .inl (ar (up (up (up (up F (10 + sta) v_16) (10 + stb) v_18) (1818 + 24 * stb + 2 * (h3 + 1)) v_11) ((1818 + 24 * stb + 2 * (h3 + 1)) + 1) v_14))))]) rfl rfl (by decide) (fun _ => rfl) rfl (fun u v_21 H locs hv_21 pv_21 hP hD hS => ?_)
          have hP : va_P (gD g) vwCl [(aR, .inr (11, [.ref aG, .ref aP, .ref aH, .ref aY, .ref aT, .ref aS, .ref aF, .ref aX, .int (iI pr), .int (iI tk), .int (iI tol), .int (iI hou)])), (aY, .inr (10, [.ref aYh, .ref aYt, .ref aYc])), (aYh, .inl (gI g, 3, .inl (ar (if reT ht sta stb = 0 then (rsH ht sta stb) else ht)))), (aYt, .inl (gI g, 36, .inl (ar (if reT ht sta stb = 0 then (rsF ht yt sta stb) else yt)))), (aYc, .inl (gI g, 36, .inl (ar (if reT ht sta stb = 0 then (rsF ht yc sta stb) else yc)))), (aN, .inl (gI g, 1960, .inl (ar (up (up (up (up F (10 + sta) v_16) (10 + stb) v_18) (1818 + 24 * stb + 2 * (h3 + 1)) v_11) ((1818 + 24 * stb + 2 * (h3 + 1)) + 1) v_14))))] H := hP
          have hD : va_D A [(aR, .inr (11, [.ref aG, .ref aP, .ref aH, .ref aY, .ref aT, .ref aS, .ref aF, .ref aX, .int (iI pr), .int (iI tk), .int (iI tol), .int (iI hou)])), (aY, .inr (10, [.ref aYh, .ref aYt, .ref aYc])), (aYh, .inl (gI g, 3, .inl (ar (if reT ht sta stb = 0 then (rsH ht sta stb) else ht)))), (aYt, .inl (gI g, 36, .inl (ar (if reT ht sta stb = 0 then (rsF ht yt sta stb) else yt)))), (aYc, .inl (gI g, 36, .inl (ar (if reT ht sta stb = 0 then (rsF ht yc sta stb) else yc)))), (aN, .inl (gI g, 1960, .inl (ar (up (up (up (up F (10 + sta) v_16) (10 + stb) v_18) (1818 + 24 * stb + 2 * (h3 + 1)) v_11) ((1818 + 24 * stb + 2 * (h3 + 1)) + 1) v_14))))] := hD
          have hv_21 : v_21 = (if reT ht sta stb = 0 then rsH ht sta stb stb else -900000 - reT ht sta stb) := hv_21
          refine lv_aload_n hx hb dL_isRestacked_122 rfl (lv_at hl 3 rfl) ?_
          refine x_bipush hx hb dL_isRestacked_123 (by decide) ?_
          refine lv_iload_n hx hb dL_isRestacked_125 rfl (lv_at hl 5 rfl) ?_
          refine x_iadd hx hb dL_isRestacked_126 ?_
          refine x_iald hx hb hK hP 5 0 rfl rfl (by omega) (by omega) (Nat.le_of_ble_eq_true rfl) dL_isRestacked_127 (fun v_22 hv_22 => ?_)
          (repeat (first | rw [up_at _ _ (by omega)] at hv_22 | rw [up_ne _ _ (by omega)] at hv_22))
          refine x_top (show v_22 = h3 + 1 by
              first
              | (
                 omega)
              | fail "q9") ?_
          refine x_cmp_ne (tgt := 135) hx hb (by omega) (by omega) dL_isRestacked_128 (by decide) (fun c_23 => ?_) (fun c_23 => ?_)
          · skip
            exfalso
            first
            | (
               omega)
            | fail "q9"
          · skip
            refine x_iconst hx hb dL_isRestacked_131 ?_
            refine lv_goto (tgt := 136) hx hb dL_isRestacked_132 (by decide) ?_
            have q_24 : (up (up (up (up F (10 + sta) v_16) (10 + stb) v_18) (1818 + 24 * stb + 2 * (h3 + 1)) v_11) ((1818 + 24 * stb + 2 * (h3 + 1)) + 1) v_14) = (up (up (up (up F (10 + sta) v_16) (10 + stb) v_18) (1818 + 24 * stb + 2 * (h3 + 1)) v_11) ((1818 + 24 * stb + 2 * (h3 + 1)) + 1) v_14) := by
              first
              | (
                 first | rfl | omega | (subst_vars; first | rfl | omega))
              | fail "q9"
            have hw_25 := (congrArg (fun (z0 : Int → Int) => ([(aR, .inr (11, [.ref aG, .ref aP, .ref aH, .ref aY, .ref aT, .ref aS, .ref aF, .ref aX, .int (iI pr), .int (iI tk), .int (iI tol), .int (iI hou)])), (aY, .inr (10, [.ref aYh, .ref aYt, .ref aYc])), (aYh, .inl (gI g, 3, .inl (ar (if reT ht sta stb = 0 then (rsH ht sta stb) else ht)))), (aYt, .inl (gI g, 36, .inl (ar (if reT ht sta stb = 0 then (rsF ht yt sta stb) else yt)))), (aYc, .inl (gI g, 36, .inl (ar (if reT ht sta stb = 0 then (rsF ht yc sta stb) else yc)))), (aN, .inl (gI g, 1960, .inl (ar z0)))] : va_W)) q_24.symm)
            rw [hQ9]
            exact x_iret hx hb hr hlocks hP hD hS (S := (Int → Int)) (by decide) dL_isRestacked_136 (up (up (up (up F (10 + sta) v_16) (10 + stb) v_18) (1818 + 24 * stb + 2 * (h3 + 1)) v_11) ((1818 + 24 * stb + 2 * (h3 + 1)) + 1) v_14) (by
                first
                | (
                   exact (bI_t True.intro).symm)
                | fail "q9") (by
                first
                | (
                   first | (rw [if_pos hT]; rw [← hh3e]; intro j hj; simp only [rkF]; by_cases qa : j = 10 + stb; ((repeat (first | rw [up_at _ _ (by omega)] | rw [up_ne _ _ (by omega)] | rw [if_pos (by omega)] | rw [if_neg (by omega)])); try omega); by_cases qb : j = 10 + sta; ((repeat (first | rw [up_at _ _ (by omega)] | rw [up_ne _ _ (by omega)] | rw [if_pos (by omega)] | rw [if_neg (by omega)])); try omega); by_cases qc : j = 1820 + 24 * stb + 2 * h3; ((repeat (first | rw [up_at _ _ (by omega)] | rw [up_ne _ _ (by omega)] | rw [if_pos (by omega)] | rw [if_neg (by omega)])); try omega); by_cases qd : j = 1821 + 24 * stb + 2 * h3; ((repeat (first | rw [up_at _ _ (by omega)] | rw [up_ne _ _ (by omega)] | rw [if_pos (by omega)] | rw [if_neg (by omega)])); try omega); ((repeat (first | rw [up_at _ _ (by omega)] | rw [up_ne _ _ (by omega)] | rw [if_pos (by omega)] | rw [if_neg (by omega)])); try omega)) | (rw [if_neg (by omega)]; exact agr_r _))
                | fail "q9") hw_25 (Nat.le_of_ble_eq_true rfl) (Nat.le_of_ble_eq_true rfl)
        · skip
          have hT : reT ht sta stb = 0 := by unfold reT; omega
          have hFt2 := hFt (by omega)
          obtain ⟨h3, hh3e⟩ : ∃ z, z = up ht sta (ht sta - 1) stb := ⟨_, rfl⟩
          have hh3 : 0 ≤ h3 ∧ h3 < 12 := by rw [hh3e]; simp only [up]; omega
          have hrs : rsH ht sta stb stb = h3 + 1 := by unfold rsH; rw [up_eq, hh3e]
          refine lv_aload_n hx hb dL_isRestacked_56 rfl (lv_at hl 1 rfl) ?_
          refine lv_aload_n hx hb dL_isRestacked_57 rfl (lv_at hl 1 rfl) ?_
          refine lv_iload_n hx hb dL_isRestacked_58 rfl (lv_at hl 2 rfl) ?_
          refine x_calli (S := Unit) (wc := [(aN, .inl (gI g, 1960, .inl (ar F)))]) (wr := [(aR, .inr (11, [.ref aG, .ref aP, .ref aH, .ref aY, .ref aT, .ref aS, .ref aF, .ref aX, .int (iI pr), .int (iI tk), .int (iI tol), .int (iI hou)])), (aY, .inr (10, [.ref aYh, .ref aYt, .ref aYc])), (aYh, .inl (gI g, 3, .inl (ar ht))), (aYt, .inl (gI g, 36, .inl (ar yt))), (aYc, .inl (gI g, 36, .inl (ar yc)))]) hC hP hD hS hA [5] [0, 1, 2, 3, 4] [0, 1, 2, 3, 4, 5] rfl rfl (fun hpre => va_runS (As := [.ref aN, .int (iI sta)]) (rest := [.ref aN]) ⟨hx, hb, hml, hown, hts⟩ (c_L_topOf l g H.size aN sta F (by first | (first | assumption | omega | exact bnd_up (by assumption) (by omega) (by omega)) | fail "q8")) (va_cwS 2 hts gL_isRestacked_L_topOf rfl rfl rfl (by decide +kernel) ⟨Nat.le_of_ble_eq_true rfl, Nat.le_of_ble_eq_true rfl⟩) ⟨xB_blind, hpre _⟩ rfl rfl hl.1 rfl (lv_room (Nat.le_of_ble_eq_true rfl)) dL_isRestacked_59 ⟨Nat.le_of_ble_eq_true rfl, Nat.le_of_ble_eq_true rfl⟩) (fun (u : Unit) => [(aR, .inr (11, [.ref aG, .ref aP, .ref aH, .ref aY, .ref aT, .ref aS, .ref aF, .ref aX, .int (iI pr), .int (iI tk), .int (iI tol), .int (iI hou)])), (aY, .inr (10, [.ref aYh, .ref aYt, .ref aYc])), (aYh, .inl (gI g, 3, .inl (ar ht))), (aYt, .inl (gI g, 36, .inl (ar yt))), (aYc, .inl (gI g, 36, .inl (ar yc))), (aN, .inl (gI g, 1960, .inl (ar F)))]) rfl rfl (by decide) (fun _ => rfl) rfl (fun u v_26 H locs hv_26 pv_26 hP hD hS => ?_)
          have hP : va_P (gD g) vwCl [(aR, .inr (11, [.ref aG, .ref aP, .ref aH, .ref aY, .ref aT, .ref aS, .ref aF, .ref aX, .int (iI pr), .int (iI tk), .int (iI tol), .int (iI hou)])), (aY, .inr (10, [.ref aYh, .ref aYt, .ref aYc])), (aYh, .inl (gI g, 3, .inl (ar ht))), (aYt, .inl (gI g, 36, .inl (ar yt))), (aYc, .inl (gI g, 36, .inl (ar yc))), (aN, .inl (gI g, 1960, .inl (ar F)))] H := hP
          have hD : va_D A [(aR, .inr (11, [.ref aG, .ref aP, .ref aH, .ref aY, .ref aT, .ref aS, .ref aF, .ref aX, .int (iI pr), .int (iI tk), .int (iI tol), .int (iI hou)])), (aY, .inr (10, [.ref aYh, .ref aYt, .ref aYc])), (aYh, .inl (gI g, 3, .inl (ar ht))), (aYt, .inl (gI g, 36, .inl (ar yt))), (aYc, .inl (gI g, 36, .inl (ar yc))), (aN, .inl (gI g, 1960, .inl (ar F)))] := hD
          have hv_26 : v_26 = 1818 + 24 * sta + 2 * F (10 + sta) := hv_26
          have yv_26 : v_26 = 1818 + 24 * sta + 2 * ht sta := by
              first
              | (
                 rw [hv_26]
                 (repeat (first | rw [up_at _ _ (by omega)] | rw [up_ne _ _ (by omega)]))
                 omega)
              | fail "q9"
          refine x_top yv_26 ?_
          refine x_iald hx hb hK hP 5 0 rfl rfl (by omega) (by omega) (Nat.le_of_ble_eq_true rfl) dL_isRestacked_62 (fun v_27 hv_27 => ?_)
          refine x_top (show v_27 = yt (sta * 12 + ht sta - 1) by
              first
              | (
                 rw [hv_27]; exact hFt2.1)
              | fail "q9") ?_
          obtain ⟨v_28, ev_28⟩ : ∃ z : Int, z = yt (sta * 12 + ht sta - 1) := ⟨_, rfl⟩
          refine x_top ev_28.symm ?_
          refine lv_istore (lv' := [(4, .int (iI v_28)), (0, .ref aR), (1, .ref aN), (2, .int (iI sta)), (3, .int (iI stb))]) hx hb dL_isRestacked_63 hl (by decide) rfl (fun ls hl => ?_)
          refine lv_aload_n hx hb dL_isRestacked_65 rfl (lv_at hl 2 rfl) ?_
          refine lv_aload_n hx hb dL_isRestacked_66 rfl (lv_at hl 2 rfl) ?_
          refine lv_iload_n hx hb dL_isRestacked_67 rfl (lv_at hl 3 rfl) ?_
          refine x_calli (S := Unit) (wc := [(aN, .inl (gI g, 1960, .inl (ar F)))]) (wr := [(aR, .inr (11, [.ref aG, .ref aP, .ref aH, .ref aY, .ref aT, .ref aS, .ref aF, .ref aX, .int (iI pr), .int (iI tk), .int (iI tol), .int (iI hou)])), (aY, .inr (10, [.ref aYh, .ref aYt, .ref aYc])), (aYh, .inl (gI g, 3, .inl (ar ht))), (aYt, .inl (gI g, 36, .inl (ar yt))), (aYc, .inl (gI g, 36, .inl (ar yc)))]) hC hP hD hS hA [5] [0, 1, 2, 3, 4] [0, 1, 2, 3, 4, 5] rfl rfl (fun hpre => va_runS (As := [.ref aN, .int (iI sta)]) (rest := [.ref aN]) ⟨hx, hb, hml, hown, hts⟩ (c_L_topOf l g H.size aN sta F (by first | (first | assumption | omega | exact bnd_up (by assumption) (by omega) (by omega)) | fail "q8")) (va_cwS 2 hts gL_isRestacked_L_topOf rfl rfl rfl (by decide +kernel) ⟨Nat.le_of_ble_eq_true rfl, Nat.le_of_ble_eq_true rfl⟩) ⟨xB_blind, hpre _⟩ rfl rfl hl.1 rfl (lv_room (Nat.le_of_ble_eq_true rfl)) dL_isRestacked_68 ⟨Nat.le_of_ble_eq_true rfl, Nat.le_of_ble_eq_true rfl⟩) (fun (u : Unit) => [(aR, .inr (11, [.ref aG, .ref aP, .ref aH, .ref aY, .ref aT, .ref aS, .ref aF, .ref aX, .int (iI pr), .int (iI tk), .int (iI tol), .int (iI hou)])), (aY, .inr (10, [.ref aYh, .ref aYt, .ref aYc])), (aYh, .inl (gI g, 3, .inl (ar ht))), (aYt, .inl (gI g, 36, .inl (ar yt))), (aYc, .inl (gI g, 36, .inl (ar yc))), (aN, .inl (gI g, 1960, .inl (ar F)))]) rfl rfl (by decide) (fun _ => rfl) rfl (fun u v_29 H locs hv_29 pv_29 hP hD hS => ?_)
          have hP : va_P (gD g) vwCl [(aR, .inr (11, [.ref aG, .ref aP, .ref aH, .ref aY, .ref aT, .ref aS, .ref aF, .ref aX, .int (iI pr), .int (iI tk), .int (iI tol), .int (iI hou)])), (aY, .inr (10, [.ref aYh, .ref aYt, .ref aYc])), (aYh, .inl (gI g, 3, .inl (ar ht))), (aYt, .inl (gI g, 36, .inl (ar yt))), (aYc, .inl (gI g, 36, .inl (ar yc))), (aN, .inl (gI g, 1960, .inl (ar F)))] H := hP
          have hD : va_D A [(aR, .inr (11, [.ref aG, .ref aP, .ref aH, .ref aY, .ref aT, .ref aS, .ref aF, .ref aX, .int (iI pr), .int (iI tk), .int (iI tol), .int (iI hou)])), (aY, .inr (10, [.ref aYh, .ref aYt, .ref aYc])), (aYh, .inl (gI g, 3, .inl (ar ht))), (aYt, .inl (gI g, 36, .inl (ar yt))), (aYc, .inl (gI g, 36, .inl (ar yc))), (aN, .inl (gI g, 1960, .inl (ar F)))] := hD
          have hv_29 : v_29 = 1818 + 24 * sta + 2 * F (10 + sta) := hv_29
          have yv_29 : v_29 = 1818 + 24 * sta + 2 * ht sta := by
              first
              | (
                 rw [hv_29]
                 (repeat (first | rw [up_at _ _ (by omega)] | rw [up_ne _ _ (by omega)]))
                 omega)
              | fail "q9"
          refine x_top yv_29 ?_
          refine x_iconst hx hb dL_isRestacked_71 ?_
          refine x_iadd hx hb dL_isRestacked_72 ?_
          refine x_iald hx hb hK hP 5 0 rfl rfl (by omega) (by omega) (Nat.le_of_ble_eq_true rfl) dL_isRestacked_73 (fun v_30 hv_30 => ?_)
          refine x_top (show v_30 = yc (sta * 12 + ht sta - 1) by
              first
              | (
                 rw [hv_30]; exact hFt2.2)
              | fail "q9") ?_
          obtain ⟨v_31, ev_31⟩ : ∃ z : Int, z = yc (sta * 12 + ht sta - 1) := ⟨_, rfl⟩
          refine x_top ev_31.symm ?_
          refine lv_istore (lv' := [(5, .int (iI v_31)), (4, .int (iI v_28)), (0, .ref aR), (1, .ref aN), (2, .int (iI sta)), (3, .int (iI stb))]) hx hb dL_isRestacked_74 hl (by decide) rfl (fun ls hl => ?_)
          refine lv_aload_n hx hb dL_isRestacked_76 rfl (lv_at hl 3 rfl) ?_
          refine x_bipush hx hb dL_isRestacked_77 (by decide) ?_
          refine lv_iload_n hx hb dL_isRestacked_79 rfl (lv_at hl 4 rfl) ?_
          refine x_iadd hx hb dL_isRestacked_80 ?_
          refine lv_dup2_11 hx hb dL_isRestacked_81 rfl rfl ?_
          refine x_iald hx hb hK hP 5 0 rfl rfl (by omega) (by omega) (Nat.le_of_ble_eq_true rfl) dL_isRestacked_82 (fun v_32 hv_32 => ?_)
          refine x_top (show v_32 = ht sta by
              first
              | (
                 omega)
              | fail "q9") ?_
          refine x_iconst hx hb dL_isRestacked_83 ?_
          refine x_isub hx hb dL_isRestacked_84 ?_
          obtain ⟨v_33, ev_33⟩ : ∃ z : Int, z = (ht sta) - 1 := ⟨_, rfl⟩
          refine x_top ev_33.symm ?_
          refine x_iast hx hb hK hP hD hS 5 0 rfl rfl (by omega) (by omega) (Nat.le_of_ble_eq_true rfl) dL_isRestacked_85 (fun H locs hP hD hS => ?_)
          have hP : va_P (gD g) vwCl [(aR, .inr (11, [.ref aG, .ref aP, .ref aH, .ref aY, .ref aT, .ref aS, .ref aF, .ref aX, .int (iI pr), .int (iI tk), .int (iI tol), .int (iI hou)])), (aY, .inr (10, [.ref aYh, .ref aYt, .ref aYc])), (aYh, .inl (gI g, 3, .inl (ar ht))), (aYt, .inl (gI g, 36, .inl (ar yt))), (aYc, .inl (gI g, 36, .inl (ar yc))), (aN, .inl (gI g, 1960, .inl (ar (up F (10 + sta) v_33))))] H := hP
          have hD : va_D A [(aR, .inr (11, [.ref aG, .ref aP, .ref aH, .ref aY, .ref aT, .ref aS, .ref aF, .ref aX, .int (iI pr), .int (iI tk), .int (iI tol), .int (iI hou)])), (aY, .inr (10, [.ref aYh, .ref aYt, .ref aYc])), (aYh, .inl (gI g, 3, .inl (ar ht))), (aYt, .inl (gI g, 36, .inl (ar yt))), (aYc, .inl (gI g, 36, .inl (ar yc))), (aN, .inl (gI g, 1960, .inl (ar (up F (10 + sta) v_33))))] := hD
          refine lv_aload_n hx hb dL_isRestacked_86 rfl (lv_at hl 3 rfl) ?_
          refine x_bipush hx hb dL_isRestacked_87 (by decide) ?_
          refine lv_iload_n hx hb dL_isRestacked_89 rfl (lv_at hl 5 rfl) ?_
          refine x_iadd hx hb dL_isRestacked_90 ?_
          refine lv_dup2_11 hx hb dL_isRestacked_91 rfl rfl ?_
          refine x_iald hx hb hK hP 5 0 rfl rfl (by omega) (by omega) (Nat.le_of_ble_eq_true rfl) dL_isRestacked_92 (fun v_34 hv_34 => ?_)
          (repeat (first | rw [up_at _ _ (by omega)] at hv_34 | rw [up_ne _ _ (by omega)] at hv_34))
          refine x_top (show v_34 = h3 by
              first
              | (
                 rw [hh3e]
                 simp only [up]
                 omega)
              | fail "q9") ?_
          refine x_iconst hx hb dL_isRestacked_93 ?_
          refine x_iadd hx hb dL_isRestacked_94 ?_
          obtain ⟨v_35, ev_35⟩ : ∃ z : Int, z = h3 + 1 := ⟨_, rfl⟩
          refine x_top ev_35.symm ?_
          refine x_iast hx hb hK hP hD hS 5 0 rfl rfl (by omega) (by omega) (Nat.le_of_ble_eq_true rfl) dL_isRestacked_95 (fun H locs hP hD hS => ?_)
          have hP : va_P (gD g) vwCl [(aR, .inr (11, [.ref aG, .ref aP, .ref aH, .ref aY, .ref aT, .ref aS, .ref aF, .ref aX, .int (iI pr), .int (iI tk), .int (iI tol), .int (iI hou)])), (aY, .inr (10, [.ref aYh, .ref aYt, .ref aYc])), (aYh, .inl (gI g, 3, .inl (ar ht))), (aYt, .inl (gI g, 36, .inl (ar yt))), (aYc, .inl (gI g, 36, .inl (ar yc))), (aN, .inl (gI g, 1960, .inl (ar (up (up F (10 + sta) v_33) (10 + stb) v_35))))] H := hP
          have hD : va_D A [(aR, .inr (11, [.ref aG, .ref aP, .ref aH, .ref aY, .ref aT, .ref aS, .ref aF, .ref aX, .int (iI pr), .int (iI tk), .int (iI tol), .int (iI hou)])), (aY, .inr (10, [.ref aYh, .ref aYt, .ref aYc])), (aYh, .inl (gI g, 3, .inl (ar ht))), (aYt, .inl (gI g, 36, .inl (ar yt))), (aYc, .inl (gI g, 36, .inl (ar yc))), (aN, .inl (gI g, 1960, .inl (ar (up (up F (10 + sta) v_33) (10 + stb) v_35))))] := hD
          refine lv_aload_n hx hb dL_isRestacked_96 rfl (lv_at hl 3 rfl) ?_
          refine lv_aload_n hx hb dL_isRestacked_97 rfl (lv_at hl 3 rfl) ?_
          refine lv_iload_n hx hb dL_isRestacked_98 rfl (lv_at hl 5 rfl) ?_
          refine x_calli (S := Unit) (wc := [(aN, .inl (gI g, 1960, .inl (ar (up (up F (10 + sta) v_33) (10 + stb) v_35))))]) (wr := [(aR, .inr (11, [.ref aG, .ref aP, .ref aH, .ref aY, .ref aT, .ref aS, .ref aF, .ref aX, .int (iI pr), .int (iI tk), .int (iI tol), .int (iI hou)])), (aY, .inr (10, [.ref aYh, .ref aYt, .ref aYc])), (aYh, .inl (gI g, 3, .inl (ar ht))), (aYt, .inl (gI g, 36, .inl (ar yt))), (aYc, .inl (gI g, 36, .inl (ar yc)))]) hC hP hD hS hA [5] [0, 1, 2, 3, 4] [0, 1, 2, 3, 4, 5] rfl rfl (fun hpre => va_runS (As := [.ref aN, .int (iI stb)]) (rest := [.ref aN]) ⟨hx, hb, hml, hown, hts⟩ (c_L_topOf l g H.size aN stb (up (up F (10 + sta) v_33) (10 + stb) v_35) (by first | (first | assumption | omega | exact bnd_up (by assumption) (by omega) (by omega)) | fail "q8")) (va_cwS 2 hts gL_isRestacked_L_topOf rfl rfl rfl (by decide +kernel) ⟨Nat.le_of_ble_eq_true rfl, Nat.le_of_ble_eq_true rfl⟩) ⟨xB_blind, hpre _⟩ rfl rfl hl.1 rfl (lv_room (Nat.le_of_ble_eq_true rfl)) dL_isRestacked_99 ⟨Nat.le_of_ble_eq_true rfl, Nat.le_of_ble_eq_true rfl⟩) (fun (u : Unit) => [(aR, .inr (11, [.ref aG, .ref aP, .ref aH, .ref aY, .ref aT, .ref aS, .ref aF, .ref aX, .int (iI pr), .int (iI tk), .int (iI tol), .int (iI hou)])), (aY, .inr (10, [.ref aYh, .ref aYt, .ref aYc])), (aYh, .inl (gI g, 3, .inl (ar ht))), (aYt, .inl (gI g, 36, .inl (ar yt))), (aYc, .inl (gI g, 36, .inl (ar yc))), (aN, .inl (gI g, 1960, .inl (ar (up (up F (10 + sta) v_33) (10 + stb) v_35))))]) rfl rfl (by decide) (fun _ => rfl) rfl (fun u v_36 H locs hv_36 pv_36 hP hD hS => ?_)
          have hP : va_P (gD g) vwCl [(aR, .inr (11, [.ref aG, .ref aP, .ref aH, .ref aY, .ref aT, .ref aS, .ref aF, .ref aX, .int (iI pr), .int (iI tk), .int (iI tol), .int (iI hou)])), (aY, .inr (10, [.ref aYh, .ref aYt, .ref aYc])), (aYh, .inl (gI g, 3, .inl (ar ht))), (aYt, .inl (gI g, 36, .inl (ar yt))), (aYc, .inl (gI g, 36, .inl (ar yc))), (aN, .inl (gI g, 1960, .inl (ar (up (up F (10 + sta) v_33) (10 + stb) v_35))))] H := hP
          have hD : va_D A [(aR, .inr (11, [.ref aG, .ref aP, .ref aH, .ref aY, .ref aT, .ref aS, .ref aF, .ref aX, .int (iI pr), .int (iI tk), .int (iI tol), .int (iI hou)])), (aY, .inr (10, [.ref aYh, .ref aYt, .ref aYc])), (aYh, .inl (gI g, 3, .inl (ar ht))), (aYt, .inl (gI g, 36, .inl (ar yt))), (aYc, .inl (gI g, 36, .inl (ar yc))), (aN, .inl (gI g, 1960, .inl (ar (up (up F (10 + sta) v_33) (10 + stb) v_35))))] := hD
          have hv_36 : v_36 = 1818 + 24 * stb + 2 * (up (up F (10 + sta) v_33) (10 + stb) v_35) (10 + stb) := hv_36
          have yv_36 : v_36 = 1818 + 24 * stb + 2 * (h3 + 1) := by
              first
              | (
                 rw [hv_36]
                 (repeat (first | rw [up_at _ _ (by omega)] | rw [up_ne _ _ (by omega)]))
                 omega)
              | fail "q9"
          refine x_top yv_36 ?_
          refine lv_iload hx hb dL_isRestacked_102 (lv_at hl 1 rfl) ?_
          refine x_iast hx hb hK hP hD hS 5 0 rfl rfl (by omega) (by omega) (Nat.le_of_ble_eq_true rfl) dL_isRestacked_104 (fun H locs hP hD hS => ?_)
          have hP : va_P (gD g) vwCl [(aR, .inr (11, [.ref aG, .ref aP, .ref aH, .ref aY, .ref aT, .ref aS, .ref aF, .ref aX, .int (iI pr), .int (iI tk), .int (iI tol), .int (iI hou)])), (aY, .inr (10, [.ref aYh, .ref aYt, .ref aYc])), (aYh, .inl (gI g, 3, .inl (ar ht))), (aYt, .inl (gI g, 36, .inl (ar yt))), (aYc, .inl (gI g, 36, .inl (ar yc))), (aN, .inl (gI g, 1960, .inl (ar (up (up (up F (10 + sta) v_33) (10 + stb) v_35) (1818 + 24 * stb + 2 * (h3 + 1)) v_28))))] H := hP
          have hD : va_D A [(aR, .inr (11, [.ref aG, .ref aP, .ref aH, .ref aY, .ref aT, .ref aS, .ref aF, .ref aX, .int (iI pr), .int (iI tk), .int (iI tol), .int (iI hou)])), (aY, .inr (10, [.ref aYh, .ref aYt, .ref aYc])), (aYh, .inl (gI g, 3, .inl (ar ht))), (aYt, .inl (gI g, 36, .inl (ar yt))), (aYc, .inl (gI g, 36, .inl (ar yc))), (aN, .inl (gI g, 1960, .inl (ar (up (up (up F (10 + sta) v_33) (10 + stb) v_35) (1818 + 24 * stb + 2 * (h3 + 1)) v_28))))] := hD
          refine lv_aload_n hx hb dL_isRestacked_105 rfl (lv_at hl 3 rfl) ?_
          refine lv_aload_n hx hb dL_isRestacked_106 rfl (lv_at hl 3 rfl) ?_
          refine lv_iload_n hx hb dL_isRestacked_107 rfl (lv_at hl 5 rfl) ?_
          refine x_calli (S := Unit) (wc := [(aN, .inl (gI g, 1960, .inl (ar (up (up (up F (10 + sta) v_33) (10 + stb) v_35) (1818 + 24 * stb + 2 * (h3 + 1)) v_28))))]) (wr := [(aR, .inr (11, [.ref aG, .ref aP, .ref aH, .ref aY, .ref aT, .ref aS, .ref aF, .ref aX, .int (iI pr), .int (iI tk), .int (iI tol), .int (iI hou)])), (aY, .inr (10, [.ref aYh, .ref aYt, .ref aYc])), (aYh, .inl (gI g, 3, .inl (ar ht))), (aYt, .inl (gI g, 36, .inl (ar yt))), (aYc, .inl (gI g, 36, .inl (ar yc)))]) hC hP hD hS hA [5] [0, 1, 2, 3, 4] [0, 1, 2, 3, 4, 5] rfl rfl (fun hpre => va_runS (As := [.ref aN, .int (iI stb)]) (rest := [.ref aN]) ⟨hx, hb, hml, hown, hts⟩ (c_L_topOf l g H.size aN stb (up (up (up F (10 + sta) v_33) (10 + stb) v_35) (1818 + 24 * stb + 2 * (h3 + 1)) v_28) (by first | (first | assumption | omega | exact bnd_up (by assumption) (by omega) (by omega)) | fail "q8")) (va_cwS 2 hts gL_isRestacked_L_topOf rfl rfl rfl (by decide +kernel) ⟨Nat.le_of_ble_eq_true rfl, Nat.le_of_ble_eq_true rfl⟩) ⟨xB_blind, hpre _⟩ rfl rfl hl.1 rfl (lv_room (Nat.le_of_ble_eq_true rfl)) dL_isRestacked_108 ⟨Nat.le_of_ble_eq_true rfl, Nat.le_of_ble_eq_true rfl⟩) (fun (u : Unit) => [(aR, .inr (11, [.ref aG, .ref aP, .ref aH, .ref aY, .ref aT, .ref aS, .ref aF, .ref aX, .int (iI pr), .int (iI tk), .int (iI tol), .int (iI hou)])), (aY, .inr (10, [.ref aYh, .ref aYt, .ref aYc])), (aYh, .inl (gI g, 3, .inl (ar ht))), (aYt, .inl (gI g, 36, .inl (ar yt))), (aYc, .inl (gI g, 36, .inl (ar yc))), (aN, .inl (gI g, 1960, .inl (ar (up (up (up F (10 + sta) v_33) (10 + stb) v_35) (1818 + 24 * stb + 2 * (h3 + 1)) v_28))))]) rfl rfl (by decide) (fun _ => rfl) rfl (fun u v_37 H locs hv_37 pv_37 hP hD hS => ?_)
          have hP : va_P (gD g) vwCl [(aR, .inr (11, [.ref aG, .ref aP, .ref aH, .ref aY, .ref aT, .ref aS, .ref aF, .ref aX, .int (iI pr), .int (iI tk), .int (iI tol), .int (iI hou)])), (aY, .inr (10, [.ref aYh, .ref aYt, .ref aYc])), (aYh, .inl (gI g, 3, .inl (ar ht))), (aYt, .inl (gI g, 36, .inl (ar yt))), (aYc, .inl (gI g, 36, .inl (ar yc))), (aN, .inl (gI g, 1960, .inl (ar (up (up (up F (10 + sta) v_33) (10 + stb) v_35) (1818 + 24 * stb + 2 * (h3 + 1)) v_28))))] H := hP
          have hD : va_D A [(aR, .inr (11, [.ref aG, .ref aP, .ref aH, .ref aY, .ref aT, .ref aS, .ref aF, .ref aX, .int (iI pr), .int (iI tk), .int (iI tol), .int (iI hou)])), (aY, .inr (10, [.ref aYh, .ref aYt, .ref aYc])), (aYh, .inl (gI g, 3, .inl (ar ht))), (aYt, .inl (gI g, 36, .inl (ar yt))), (aYc, .inl (gI g, 36, .inl (ar yc))), (aN, .inl (gI g, 1960, .inl (ar (up (up (up F (10 + sta) v_33) (10 + stb) v_35) (1818 + 24 * stb + 2 * (h3 + 1)) v_28))))] := hD
          have hv_37 : v_37 = 1818 + 24 * stb + 2 * (up (up (up F (10 + sta) v_33) (10 + stb) v_35) (1818 + 24 * stb + 2 * (h3 + 1)) v_28) (10 + stb) := hv_37
          have yv_37 : v_37 = 1818 + 24 * stb + 2 * (h3 + 1) := by
              first
              | (
                 rw [hv_37]
                 (repeat (first | rw [up_at _ _ (by omega)] | rw [up_ne _ _ (by omega)]))
                 omega)
              | fail "q9"
          refine x_top yv_37 ?_
          refine x_iconst hx hb dL_isRestacked_111 ?_
          refine x_iadd hx hb dL_isRestacked_112 ?_
          refine lv_iload hx hb dL_isRestacked_113 (lv_at hl 0 rfl) ?_
          refine x_iast hx hb hK hP hD hS 5 0 rfl rfl (by omega) (by omega) (Nat.le_of_ble_eq_true rfl) dL_isRestacked_115 (fun H locs hP hD hS => ?_)
          have hP : va_P (gD g) vwCl [(aR, .inr (11, [.ref aG, .ref aP, .ref aH, .ref aY, .ref aT, .ref aS, .ref aF, .ref aX, .int (iI pr), .int (iI tk), .int (iI tol), .int (iI hou)])), (aY, .inr (10, [.ref aYh, .ref aYt, .ref aYc])), (aYh, .inl (gI g, 3, .inl (ar ht))), (aYt, .inl (gI g, 36, .inl (ar yt))), (aYc, .inl (gI g, 36, .inl (ar yc))), (aN, .inl (gI g, 1960, .inl (ar (up (up (up (up F (10 + sta) v_33) (10 + stb) v_35) (1818 + 24 * stb + 2 * (h3 + 1)) v_28) ((1818 + 24 * stb + 2 * (h3 + 1)) + 1) v_31))))] H := hP
          have hD : va_D A [(aR, .inr (11, [.ref aG, .ref aP, .ref aH, .ref aY, .ref aT, .ref aS, .ref aF, .ref aX, .int (iI pr), .int (iI tk), .int (iI tol), .int (iI hou)])), (aY, .inr (10, [.ref aYh, .ref aYt, .ref aYc])), (aYh, .inl (gI g, 3, .inl (ar ht))), (aYt, .inl (gI g, 36, .inl (ar yt))), (aYc, .inl (gI g, 36, .inl (ar yc))), (aN, .inl (gI g, 1960, .inl (ar (up (up (up (up F (10 + sta) v_33) (10 + stb) v_35) (1818 + 24 * stb + 2 * (h3 + 1)) v_28) ((1818 + 24 * stb + 2 * (h3 + 1)) + 1) v_31))))] := hD
          refine lv_aload_n hx hb dL_isRestacked_116 rfl (lv_at hl 2 rfl) ?_
          refine lv_iload_n hx hb dL_isRestacked_117 rfl (lv_at hl 4 rfl) ?_
          refine lv_iload_n hx hb dL_isRestacked_118 rfl (lv_at hl 5 rfl) ?_
          refine x_calli (S := Unit) (wc := [(aR, .inr (11, [.ref aG, .ref aP, .ref aH, .ref aY, .ref aT, .ref aS, .ref aF, .ref aX, .int (iI pr), .int (iI tk), .int (iI tol), .int (iI hou)])), (aY, .inr (10, [.ref aYh, .ref aYt, .ref aYc])), (aYh, .inl (gI g, 3, .inl (ar ht))), (aYt, .inl (gI g, 36, .inl (ar yt))), (aYc, .inl (gI g, 36, .inl (ar yc)))]) (wr := [(aN, .inl (gI g, 1960, .inl (ar (up (up (up (up F (10 + sta) v_33) (10 + stb) v_35) (1818 + 24 * stb + 2 * (h3 + 1)) v_28) ((1818 + 24 * stb + 2 * (h3 + 1)) + 1) v_31))))]) hC hP hD hS hA [0, 1, 2, 3, 4] [5] [1, 2, 3, 4, 5, 0] rfl rfl (fun hpre => vx_runSW (As := [.ref aR, .int (iI sta), .int (iI stb)]) (rest := []) ⟨hx, hb, hml, hown, hts⟩ (c_L_restack l hflags g H.size aR aG aP aH aY aT aS aF aX aYh aYt aYc pr tk tol hou sta stb ht yt yc (by first | (first | assumption | omega | exact bnd_up (by assumption) (by omega) (by omega)) | fail "q8") (by first | (first | assumption | omega | exact bnd_up (by assumption) (by omega) (by omega)) | fail "q8") (by first | (first | assumption | omega | exact bnd_up (by assumption) (by omega) (by omega)) | fail "q8")) (vx_cwSW 3 hts gL_isRestacked_L_restack rfl rfl rfl (by decide +kernel) ⟨Nat.le_of_ble_eq_true rfl, Nat.le_of_ble_eq_true rfl⟩) ⟨xB_blind, hpre _⟩ rfl rfl hl.1 rfl (lv_room (Nat.le_of_ble_eq_true rfl)) dL_isRestacked_119 ⟨Nat.le_of_ble_eq_true rfl, Nat.le_of_ble_eq_true rfl⟩) (fun (u : Unit) => [(aR, .inr (11, [.ref aG, .ref aP, .ref aH, .ref aY, .ref aT, .ref aS, .ref aF, .ref aX, .int (iI pr), .int (iI tk), .int (iI tol), .int (iI hou)])), (aY, .inr (10, [.ref aYh, .ref aYt, .ref aYc])), (aYh, .inl (gI g, 3, .inl (ar (if reT ht sta stb = 0 then (rsH ht sta stb) else ht)))), (aYt, .inl (gI g, 36, .inl (ar (if reT ht sta stb = 0 then (rsF ht yt sta stb) else yt)))), (aYc, .inl (gI g, 36, .inl (ar (if reT ht sta stb = 0 then (rsF ht yc sta stb) else yc)))), (aN, .inl (gI g, 1960, .inl (ar (up (up (up (up F (10 + sta) v_33) (10 + stb) v_35) (1818 + 24 * stb + 2 * (h3 + 1)) v_28) ((1818 + 24 * stb + 2 * (h3 + 1)) + 1) v_31))))]) rfl rfl (by decide) (fun _ => rfl) rfl (fun u v_38 H locs hv_38 pv_38 hP hD hS => ?_)
          have hP : va_P (gD g) vwCl [(aR, .inr (11, [.ref aG, .ref aP, .ref aH, .ref aY, .ref aT, .ref aS, .ref aF, .ref aX, .int (iI pr), .int (iI tk), .int (iI tol), .int (iI hou)])), (aY, .inr (10, [.ref aYh, .ref aYt, .ref aYc])), (aYh, .inl (gI g, 3, .inl (ar (if reT ht sta stb = 0 then (rsH ht sta stb) else ht)))), (aYt, .inl (gI g, 36, .inl (ar (if reT ht sta stb = 0 then (rsF ht yt sta stb) else yt)))), (aYc, .inl (gI g, 36, .inl (ar (if reT ht sta stb = 0 then (rsF ht yc sta stb) else yc)))), (aN, .inl (gI g, 1960, .inl (ar (up (up (up (up F (10 + sta) v_33) (10 + stb) v_35) (1818 + 24 * stb + 2 * (h3 + 1)) v_28) ((1818 + 24 * stb + 2 * (h3 + 1)) + 1) v_31))))] H := hP
          have hD : va_D A [(aR, .inr (11, [.ref aG, .ref aP, .ref aH, .ref aY, .ref aT, .ref aS, .ref aF, .ref aX, .int (iI pr), .int (iI tk), .int (iI tol), .int (iI hou)])), (aY, .inr (10, [.ref aYh, .ref aYt, .ref aYc])), (aYh, .inl (gI g, 3, .inl (ar (if reT ht sta stb = 0 then (rsH ht sta stb) else ht)))), (aYt, .inl (gI g, 36, .inl (ar (if reT ht sta stb = 0 then (rsF ht yt sta stb) else yt)))), (aYc, .inl (gI g, 36, .inl (ar (if reT ht sta stb = 0 then (rsF ht yc sta stb) else yc)))), (aN, .inl (gI g, 1960, .inl (ar (up (up (up (up F (10 + sta) v_33) (10 + stb) v_35) (1818 + 24 * stb + 2 * (h3 + 1)) v_28) ((1818 + 24 * stb + 2 * (h3 + 1)) + 1) v_31))))] := hD
          have hv_38 : v_38 = (if reT ht sta stb = 0 then rsH ht sta stb stb else -900000 - reT ht sta stb) := hv_38
          refine lv_aload_n hx hb dL_isRestacked_122 rfl (lv_at hl 3 rfl) ?_
          refine x_bipush hx hb dL_isRestacked_123 (by decide) ?_
          refine lv_iload_n hx hb dL_isRestacked_125 rfl (lv_at hl 5 rfl) ?_
          refine x_iadd hx hb dL_isRestacked_126 ?_
          refine x_iald hx hb hK hP 5 0 rfl rfl (by omega) (by omega) (Nat.le_of_ble_eq_true rfl) dL_isRestacked_127 (fun v_39 hv_39 => ?_)
          (repeat (first | rw [up_at _ _ (by omega)] at hv_39 | rw [up_ne _ _ (by omega)] at hv_39))
          refine x_top (show v_39 = h3 + 1 by
              first
              | (
                 omega)
              | fail "q9") ?_
          refine x_cmp_ne (tgt := 135) hx hb (by omega) (by omega) dL_isRestacked_128 (by decide) (fun c_40 => ?_) (fun c_40 => ?_)
          · skip
            exfalso
            first
            | (
               omega)
            | fail "q9"
          · skip
            refine x_iconst hx hb dL_isRestacked_131 ?_
            refine lv_goto (tgt := 136) hx hb dL_isRestacked_132 (by decide) ?_
            have q_41 : (up (up (up (up F (10 + sta) v_33) (10 + stb) v_35) (1818 + 24 * stb + 2 * (h3 + 1)) v_28) ((1818 + 24 * stb + 2 * (h3 + 1)) + 1) v_31) = (up (up (up (up F (10 + sta) v_33) (10 + stb) v_35) (1818 + 24 * stb + 2 * (h3 + 1)) v_28) ((1818 + 24 * stb + 2 * (h3 + 1)) + 1) v_31) := by
              first
              | (
                 first | rfl | omega | (subst_vars; first | rfl | omega))
              | fail "q9"
            have hw_42 := (congrArg (fun (z0 : Int → Int) => ([(aR, .inr (11, [.ref aG, .ref aP, .ref aH, .ref aY, .ref aT, .ref aS, .ref aF, .ref aX, .int (iI pr), .int (iI tk), .int (iI tol), .int (iI hou)])), (aY, .inr (10, [.ref aYh, .ref aYt, .ref aYc])), (aYh, .inl (gI g, 3, .inl (ar (if reT ht sta stb = 0 then (rsH ht sta stb) else ht)))), (aYt, .inl (gI g, 36, .inl (ar (if reT ht sta stb = 0 then (rsF ht yt sta stb) else yt)))), (aYc, .inl (gI g, 36, .inl (ar (if reT ht sta stb = 0 then (rsF ht yc sta stb) else yc)))), (aN, .inl (gI g, 1960, .inl (ar z0)))] : va_W)) q_41.symm)
            rw [hQ9]
            exact x_iret hx hb hr hlocks hP hD hS (S := (Int → Int)) (by decide) dL_isRestacked_136 (up (up (up (up F (10 + sta) v_33) (10 + stb) v_35) (1818 + 24 * stb + 2 * (h3 + 1)) v_28) ((1818 + 24 * stb + 2 * (h3 + 1)) + 1) v_31) (by
                first
                | (
                   exact (bI_t True.intro).symm)
                | fail "q9") (by
                first
                | (
                   first | (rw [if_pos hT]; rw [← hh3e]; intro j hj; simp only [rkF]; by_cases qa : j = 10 + stb; ((repeat (first | rw [up_at _ _ (by omega)] | rw [up_ne _ _ (by omega)] | rw [if_pos (by omega)] | rw [if_neg (by omega)])); try omega); by_cases qb : j = 10 + sta; ((repeat (first | rw [up_at _ _ (by omega)] | rw [up_ne _ _ (by omega)] | rw [if_pos (by omega)] | rw [if_neg (by omega)])); try omega); by_cases qc : j = 1820 + 24 * stb + 2 * h3; ((repeat (first | rw [up_at _ _ (by omega)] | rw [up_ne _ _ (by omega)] | rw [if_pos (by omega)] | rw [if_neg (by omega)])); try omega); by_cases qd : j = 1821 + 24 * stb + 2 * h3; ((repeat (first | rw [up_at _ _ (by omega)] | rw [up_ne _ _ (by omega)] | rw [if_pos (by omega)] | rw [if_neg (by omega)])); try omega); ((repeat (first | rw [up_at _ _ (by omega)] | rw [up_ne _ _ (by omega)] | rw [if_pos (by omega)] | rw [if_neg (by omega)])); try omega)) | (rw [if_neg (by omega)]; exact agr_r _))
                | fail "q9") hw_42 (Nat.le_of_ble_eq_true rfl) (Nat.le_of_ble_eq_true rfl)
      · skip
        refine lv_aload_n hx hb dL_isRestacked_14 rfl (lv_at hl 1 rfl) ?_
        refine x_bipush hx hb dL_isRestacked_15 (by decide) ?_
        refine lv_iload_n hx hb dL_isRestacked_17 rfl (lv_at hl 3 rfl) ?_
        refine x_iadd hx hb dL_isRestacked_18 ?_
        refine x_iald hx hb hK hP 5 0 rfl rfl (by omega) (by omega) (Nat.le_of_ble_eq_true rfl) dL_isRestacked_19 (fun v_43 hv_43 => ?_)
        refine x_top (show v_43 = ht stb by
            first
            | (
               omega)
            | fail "q9") ?_
        refine x_bipush hx hb dL_isRestacked_20 (by decide) ?_
        refine x_cmp_ne (tgt := 56) hx hb (by omega) (by omega) dL_isRestacked_22 (by decide) (fun c_44 => ?_) (fun c_44 => ?_)
        · skip
          rcases (show sta = stb ∨ sta ≠ stb by omega) with hcut | hcut
          · skip
            have hT : reT ht sta stb = 0 := by unfold reT; omega
            have hFt2 := hFt (by omega)
            obtain ⟨h3, hh3e⟩ : ∃ z, z = up ht sta (ht sta - 1) stb := ⟨_, rfl⟩
            have hh3 : 0 ≤ h3 ∧ h3 < 12 := by rw [hh3e]; simp only [up]; omega
            have hrs : rsH ht sta stb stb = h3 + 1 := by unfold rsH; rw [up_eq, hh3e]
            refine lv_aload_n hx hb dL_isRestacked_56 rfl (lv_at hl 1 rfl) ?_
            refine lv_aload_n hx hb dL_isRestacked_57 rfl (lv_at hl 1 rfl) ?_
            refine lv_iload_n hx hb dL_isRestacked_58 rfl (lv_at hl 2 rfl) ?_
            refine x_calli (S := Unit) (wc := [(aN, .inl (gI g, 1960, .inl (ar F)))]) (wr := [(aR, .inr (11, [.ref aG, .ref aP, .ref aH, .ref aY, .ref aT, .ref aS, .ref aF, .ref aX, .int (iI pr), .int (iI tk), .int (iI tol), .int (iI hou)])), (aY, .inr (10, [.ref aYh, .ref aYt, .ref aYc])), (aYh, .inl (gI g, 3, .inl (ar ht))), (aYt, .inl (gI g, 36, .inl (ar yt))), (aYc, .inl (gI g, 36, .inl (ar yc)))]) hC hP hD hS hA [5] [0, 1, 2, 3, 4] [0, 1, 2, 3, 4, 5] rfl rfl (fun hpre => va_runS (As := [.ref aN, .int (iI sta)]) (rest := [.ref aN]) ⟨hx, hb, hml, hown, hts⟩ (c_L_topOf l g H.size aN sta F (by first | (first | assumption | omega | exact bnd_up (by assumption) (by omega) (by omega)) | fail "q8")) (va_cwS 2 hts gL_isRestacked_L_topOf rfl rfl rfl (by decide +kernel) ⟨Nat.le_of_ble_eq_true rfl, Nat.le_of_ble_eq_true rfl⟩) ⟨xB_blind, hpre _⟩ rfl rfl hl.1 rfl (lv_room (Nat.le_of_ble_eq_true rfl)) dL_isRestacked_59 ⟨Nat.le_of_ble_eq_true rfl, Nat.le_of_ble_eq_true rfl⟩) (fun (u : Unit) => [(aR, .inr (11, [.ref aG, .ref aP, .ref aH, .ref aY, .ref aT, .ref aS, .ref aF, .ref aX, .int (iI pr), .int (iI tk), .int (iI tol), .int (iI hou)])), (aY, .inr (10, [.ref aYh, .ref aYt, .ref aYc])), (aYh, .inl (gI g, 3, .inl (ar ht))), (aYt, .inl (gI g, 36, .inl (ar yt))), (aYc, .inl (gI g, 36, .inl (ar yc))), (aN, .inl (gI g, 1960, .inl (ar F)))]) rfl rfl (by decide) (fun _ => rfl) rfl (fun u v_45 H locs hv_45 pv_45 hP hD hS => ?_)
            have hP : va_P (gD g) vwCl [(aR, .inr (11, [.ref aG, .ref aP, .ref aH, .ref aY, .ref aT, .ref aS, .ref aF, .ref aX, .int (iI pr), .int (iI tk), .int (iI tol), .int (iI hou)])), (aY, .inr (10, [.ref aYh, .ref aYt, .ref aYc])), (aYh, .inl (gI g, 3, .inl (ar ht))), (aYt, .inl (gI g, 36, .inl (ar yt))), (aYc, .inl (gI g, 36, .inl (ar yc))), (aN, .inl (gI g, 1960, .inl (ar F)))] H := hP
            have hD : va_D A [(aR, .inr (11, [.ref aG, .ref aP, .ref aH, .ref aY, .ref aT, .ref aS, .ref aF, .ref aX, .int (iI pr), .int (iI tk), .int (iI tol), .int (iI hou)])), (aY, .inr (10, [.ref aYh, .ref aYt, .ref aYc])), (aYh, .inl (gI g, 3, .inl (ar ht))), (aYt, .inl (gI g, 36, .inl (ar yt))), (aYc, .inl (gI g, 36, .inl (ar yc))), (aN, .inl (gI g, 1960, .inl (ar F)))] := hD
            have hv_45 : v_45 = 1818 + 24 * sta + 2 * F (10 + sta) := hv_45
            have yv_45 : v_45 = 1818 + 24 * sta + 2 * ht sta := by
                first
                | (
                   rw [hv_45]
                   (repeat (first | rw [up_at _ _ (by omega)] | rw [up_ne _ _ (by omega)]))
                   omega)
                | fail "q9"
            refine x_top yv_45 ?_
            refine x_iald hx hb hK hP 5 0 rfl rfl (by omega) (by omega) (Nat.le_of_ble_eq_true rfl) dL_isRestacked_62 (fun v_46 hv_46 => ?_)
            refine x_top (show v_46 = yt (sta * 12 + ht sta - 1) by
                first
                | (
                   rw [hv_46]; exact hFt2.1)
                | fail "q9") ?_
            obtain ⟨v_47, ev_47⟩ : ∃ z : Int, z = yt (sta * 12 + ht sta - 1) := ⟨_, rfl⟩
            refine x_top ev_47.symm ?_
            refine lv_istore (lv' := [(4, .int (iI v_47)), (0, .ref aR), (1, .ref aN), (2, .int (iI sta)), (3, .int (iI stb))]) hx hb dL_isRestacked_63 hl (by decide) rfl (fun ls hl => ?_)
            refine lv_aload_n hx hb dL_isRestacked_65 rfl (lv_at hl 2 rfl) ?_
            refine lv_aload_n hx hb dL_isRestacked_66 rfl (lv_at hl 2 rfl) ?_
            refine lv_iload_n hx hb dL_isRestacked_67 rfl (lv_at hl 3 rfl) ?_
            refine x_calli (S := Unit) (wc := [(aN, .inl (gI g, 1960, .inl (ar F)))]) (wr := [(aR, .inr (11, [.ref aG, .ref aP, .ref aH, .ref aY, .ref aT, .ref aS, .ref aF, .ref aX, .int (iI pr), .int (iI tk), .int (iI tol), .int (iI hou)])), (aY, .inr (10, [.ref aYh, .ref aYt, .ref aYc])), (aYh, .inl (gI g, 3, .inl (ar ht))), (aYt, .inl (gI g, 36, .inl (ar yt))), (aYc, .inl (gI g, 36, .inl (ar yc)))]) hC hP hD hS hA [5] [0, 1, 2, 3, 4] [0, 1, 2, 3, 4, 5] rfl rfl (fun hpre => va_runS (As := [.ref aN, .int (iI sta)]) (rest := [.ref aN]) ⟨hx, hb, hml, hown, hts⟩ (c_L_topOf l g H.size aN sta F (by first | (first | assumption | omega | exact bnd_up (by assumption) (by omega) (by omega)) | fail "q8")) (va_cwS 2 hts gL_isRestacked_L_topOf rfl rfl rfl (by decide +kernel) ⟨Nat.le_of_ble_eq_true rfl, Nat.le_of_ble_eq_true rfl⟩) ⟨xB_blind, hpre _⟩ rfl rfl hl.1 rfl (lv_room (Nat.le_of_ble_eq_true rfl)) dL_isRestacked_68 ⟨Nat.le_of_ble_eq_true rfl, Nat.le_of_ble_eq_true rfl⟩) (fun (u : Unit) => [(aR, .inr (11, [.ref aG, .ref aP, .ref aH, .ref aY, .ref aT, .ref aS, .ref aF, .ref aX, .int (iI pr), .int (iI tk), .int (iI tol), .int (iI hou)])), (aY, .inr (10, [.ref aYh, .ref aYt, .ref aYc])), (aYh, .inl (gI g, 3, .inl (ar ht))), (aYt, .inl (gI g, 36, .inl (ar yt))), (aYc, .inl (gI g, 36, .inl (ar yc))), (aN, .inl (gI g, 1960, .inl (ar F)))]) rfl rfl (by decide) (fun _ => rfl) rfl (fun u v_48 H locs hv_48 pv_48 hP hD hS => ?_)
            have hP : va_P (gD g) vwCl [(aR, .inr (11, [.ref aG, .ref aP, .ref aH, .ref aY, .ref aT, .ref aS, .ref aF, .ref aX, .int (iI pr), .int (iI tk), .int (iI tol), .int (iI hou)])), (aY, .inr (10, [.ref aYh, .ref aYt, .ref aYc])), (aYh, .inl (gI g, 3, .inl (ar ht))), (aYt, .inl (gI g, 36, .inl (ar yt))), (aYc, .inl (gI g, 36, .inl (ar yc))), (aN, .inl (gI g, 1960, .inl (ar F)))] H := hP
            have hD : va_D A [(aR, .inr (11, [.ref aG, .ref aP, .ref aH, .ref aY, .ref aT, .ref aS, .ref aF, .ref aX, .int (iI pr), .int (iI tk), .int (iI tol), .int (iI hou)])), (aY, .inr (10, [.ref aYh, .ref aYt, .ref aYc])), (aYh, .inl (gI g, 3, .inl (ar ht))), (aYt, .inl (gI g, 36, .inl (ar yt))), (aYc, .inl (gI g, 36, .inl (ar yc))), (aN, .inl (gI g, 1960, .inl (ar F)))] := hD
            have hv_48 : v_48 = 1818 + 24 * sta + 2 * F (10 + sta) := hv_48
            have yv_48 : v_48 = 1818 + 24 * sta + 2 * ht sta := by
                first
                | (
                   rw [hv_48]
                   (repeat (first | rw [up_at _ _ (by omega)] | rw [up_ne _ _ (by omega)]))
                   omega)
                | fail "q9"
            refine x_top yv_48 ?_
            refine x_iconst hx hb dL_isRestacked_71 ?_
            refine x_iadd hx hb dL_isRestacked_72 ?_
            refine x_iald hx hb hK hP 5 0 rfl rfl (by omega) (by omega) (Nat.le_of_ble_eq_true rfl) dL_isRestacked_73 (fun v_49 hv_49 => ?_)
            refine x_top (show v_49 = yc (sta * 12 + ht sta - 1) by
                first
                | (
                   rw [hv_49]; exact hFt2.2)
                | fail "q9") ?_
            obtain ⟨v_50, ev_50⟩ : ∃ z : Int, z = yc (sta * 12 + ht sta - 1) := ⟨_, rfl⟩
            refine x_top ev_50.symm ?_
            refine lv_istore (lv' := [(5, .int (iI v_50)), (4, .int (iI v_47)), (0, .ref aR), (1, .ref aN), (2, .int (iI sta)), (3, .int (iI stb))]) hx hb dL_isRestacked_74 hl (by decide) rfl (fun ls hl => ?_)
            refine lv_aload_n hx hb dL_isRestacked_76 rfl (lv_at hl 3 rfl) ?_
            refine x_bipush hx hb dL_isRestacked_77 (by decide) ?_
            refine lv_iload_n hx hb dL_isRestacked_79 rfl (lv_at hl 4 rfl) ?_
            refine x_iadd hx hb dL_isRestacked_80 ?_
            refine lv_dup2_11 hx hb dL_isRestacked_81 rfl rfl ?_
            refine x_iald hx hb hK hP 5 0 rfl rfl (by omega) (by omega) (Nat.le_of_ble_eq_true rfl) dL_isRestacked_82 (fun v_51 hv_51 => ?_)
            refine x_top (show v_51 = ht sta by
                first
                | (
                   omega)
                | fail "q9") ?_
            refine x_iconst hx hb dL_isRestacked_83 ?_
            refine x_isub hx hb dL_isRestacked_84 ?_
            obtain ⟨v_52, ev_52⟩ : ∃ z : Int, z = (ht sta) - 1 := ⟨_, rfl⟩
            refine x_top ev_52.symm ?_
            refine x_iast hx hb hK hP hD hS 5 0 rfl rfl (by omega) (by omega) (Nat.le_of_ble_eq_true rfl) dL_isRestacked_85 (fun H locs hP hD hS => ?_)
            have hP : va_P (gD g) vwCl [(aR, .inr (11, [.ref aG, .ref aP, .ref aH, .ref aY, .ref aT, .ref aS, .ref aF, .ref aX, .int (iI pr), .int (iI tk), .int (iI tol), .int (iI hou)])), (aY, .inr (10, [.ref aYh, .ref aYt, .ref aYc])), (aYh, .inl (gI g, 3, .inl (ar ht))), (aYt, .inl (gI g, 36, .inl (ar yt))), (aYc, .inl (gI g, 36, .inl (ar yc))), (aN, .inl (gI g, 1960, .inl (ar (up F (10 + sta) v_52))))] H := hP
            have hD : va_D A [(aR, .inr (11, [.ref aG, .ref aP, .ref aH, .ref aY, .ref aT, .ref aS, .ref aF, .ref aX, .int (iI pr), .int (iI tk), .int (iI tol), .int (iI hou)])), (aY, .inr (10, [.ref aYh, .ref aYt, .ref aYc])), (aYh, .inl (gI g, 3, .inl (ar ht))), (aYt, .inl (gI g, 36, .inl (ar yt))), (aYc, .inl (gI g, 36, .inl (ar yc))), (aN, .inl (gI g, 1960, .inl (ar (up F (10 + sta) v_52))))] := hD
            refine lv_aload_n hx hb dL_isRestacked_86 rfl (lv_at hl 3 rfl) ?_
            refine x_bipush hx hb dL_isRestacked_87 (by decide) ?_
            refine lv_iload_n hx hb dL_isRestacked_89 rfl (lv_at hl 5 rfl) ?_
            refine x_iadd hx hb dL_isRestacked_90 ?_
            refine lv_dup2_11 hx hb dL_isRestacked_91 rfl rfl ?_
            refine x_iald hx hb hK hP 5 0 rfl rfl (by omega) (by omega) (Nat.le_of_ble_eq_true rfl) dL_isRestacked_92 (fun v_53 hv_53 => ?_)
            (repeat (first | rw [up_at _ _ (by omega)] at hv_53 | rw [up_ne _ _ (by omega)] at hv_53))
            refine x_top (show v_53 = h3 by
                first
                | (
                   rw [hh3e]
                   simp only [up]
                   omega)
                | fail "q9") ?_
            refine x_iconst hx hb dL_isRestacked_93 ?_
            refine x_iadd hx hb dL_isRestacked_94 ?_
            obtain ⟨v_54, ev_54⟩ : ∃ z : Int, z = h3 + 1 := ⟨_, rfl⟩
            refine x_top ev_54.symm ?_
            refine x_iast hx hb hK hP hD hS 5 0 rfl rfl (by omega) (by omega) (Nat.le_of_ble_eq_true rfl) dL_isRestacked_95 (fun H locs hP hD hS => ?_)
            have hP : va_P (gD g) vwCl [(aR, .inr (11, [.ref aG, .ref aP, .ref aH, .ref aY, .ref aT, .ref aS, .ref aF, .ref aX, .int (iI pr), .int (iI tk), .int (iI tol), .int (iI hou)])), (aY, .inr (10, [.ref aYh, .ref aYt, .ref aYc])), (aYh, .inl (gI g, 3, .inl (ar ht))), (aYt, .inl (gI g, 36, .inl (ar yt))), (aYc, .inl (gI g, 36, .inl (ar yc))), (aN, .inl (gI g, 1960, .inl (ar (up (up F (10 + sta) v_52) (10 + stb) v_54))))] H := hP
            have hD : va_D A [(aR, .inr (11, [.ref aG, .ref aP, .ref aH, .ref aY, .ref aT, .ref aS, .ref aF, .ref aX, .int (iI pr), .int (iI tk), .int (iI tol), .int (iI hou)])), (aY, .inr (10, [.ref aYh, .ref aYt, .ref aYc])), (aYh, .inl (gI g, 3, .inl (ar ht))), (aYt, .inl (gI g, 36, .inl (ar yt))), (aYc, .inl (gI g, 36, .inl (ar yc))), (aN, .inl (gI g, 1960, .inl (ar (up (up F (10 + sta) v_52) (10 + stb) v_54))))] := hD
            refine lv_aload_n hx hb dL_isRestacked_96 rfl (lv_at hl 3 rfl) ?_
            refine lv_aload_n hx hb dL_isRestacked_97 rfl (lv_at hl 3 rfl) ?_
            refine lv_iload_n hx hb dL_isRestacked_98 rfl (lv_at hl 5 rfl) ?_
            refine x_calli (S := Unit) (wc := [(aN, .inl (gI g, 1960, .inl (ar (up (up F (10 + sta) v_52) (10 + stb) v_54))))]) (wr := [(aR, .inr (11, [.ref aG, .ref aP, .ref aH, .ref aY, .ref aT, .ref aS, .ref aF, .ref aX, .int (iI pr), .int (iI tk), .int (iI tol), .int (iI hou)])), (aY, .inr (10, [.ref aYh, .ref aYt, .ref aYc])), (aYh, .inl (gI g, 3, .inl (ar ht))), (aYt, .inl (gI g, 36, .inl (ar yt))), (aYc, .inl (gI g, 36, .inl (ar yc)))]) hC hP hD hS hA [5] [0, 1, 2, 3, 4] [0, 1, 2, 3, 4, 5] rfl rfl (fun hpre => va_runS (As := [.ref aN, .int (iI stb)]) (rest := [.ref aN]) ⟨hx, hb, hml, hown, hts⟩ (c_L_topOf l g H.size aN stb (up (up F (10 + sta) v_52) (10 + stb) v_54) (by first | (first | assumption | omega | exact bnd_up (by assumption) (by omega) (by omega)) | fail "q8")) (va_cwS 2 hts gL_isRestacked_L_topOf rfl rfl rfl (by decide +kernel) ⟨Nat.le_of_ble_eq_true rfl, Nat.le_of_ble_eq_true rfl⟩) ⟨xB_blind, hpre _⟩ rfl rfl hl.1 rfl (lv_room (Nat.le_of_ble_eq_true rfl)) dL_isRestacked_99 ⟨Nat.le_of_ble_eq_true rfl, Nat.le_of_ble_eq_true rfl⟩) (fun (u : Unit) => [(aR, .inr (11, [.ref aG, .ref aP, .ref aH, .ref aY, .ref aT, .ref aS, .ref aF, .ref aX, .int (iI pr), .int (iI tk), .int (iI tol), .int (iI hou)])), (aY, .inr (10, [.ref aYh, .ref aYt, .ref aYc])), (aYh, .inl (gI g, 3, .inl (ar ht))), (aYt, .inl (gI g, 36, .inl (ar yt))), (aYc, .inl (gI g, 36, .inl (ar yc))), (aN, .inl (gI g, 1960, .inl (ar (up (up F (10 + sta) v_52) (10 + stb) v_54))))]) rfl rfl (by decide) (fun _ => rfl) rfl (fun u v_55 H locs hv_55 pv_55 hP hD hS => ?_)
            have hP : va_P (gD g) vwCl [(aR, .inr (11, [.ref aG, .ref aP, .ref aH, .ref aY, .ref aT, .ref aS, .ref aF, .ref aX, .int (iI pr), .int (iI tk), .int (iI tol), .int (iI hou)])), (aY, .inr (10, [.ref aYh, .ref aYt, .ref aYc])), (aYh, .inl (gI g, 3, .inl (ar ht))), (aYt, .inl (gI g, 36, .inl (ar yt))), (aYc, .inl (gI g, 36, .inl (ar yc))), (aN, .inl (gI g, 1960, .inl (ar (up (up F (10 + sta) v_52) (10 + stb) v_54))))] H := hP
            have hD : va_D A [(aR, .inr (11, [.ref aG, .ref aP, .ref aH, .ref aY, .ref aT, .ref aS, .ref aF, .ref aX, .int (iI pr), .int (iI tk), .int (iI tol), .int (iI hou)])), (aY, .inr (10, [.ref aYh, .ref aYt, .ref aYc])), (aYh, .inl (gI g, 3, .inl (ar ht))), (aYt, .inl (gI g, 36, .inl (ar yt))), (aYc, .inl (gI g, 36, .inl (ar yc))), (aN, .inl (gI g, 1960, .inl (ar (up (up F (10 + sta) v_52) (10 + stb) v_54))))] := hD
            have hv_55 : v_55 = 1818 + 24 * stb + 2 * (up (up F (10 + sta) v_52) (10 + stb) v_54) (10 + stb) := hv_55
            have yv_55 : v_55 = 1818 + 24 * stb + 2 * (h3 + 1) := by
                first
                | (
                   rw [hv_55]
                   (repeat (first | rw [up_at _ _ (by omega)] | rw [up_ne _ _ (by omega)]))
                   omega)
                | fail "q9"
            refine x_top yv_55 ?_
            refine lv_iload hx hb dL_isRestacked_102 (lv_at hl 1 rfl) ?_
            refine x_iast hx hb hK hP hD hS 5 0 rfl rfl (by omega) (by omega) (Nat.le_of_ble_eq_true rfl) dL_isRestacked_104 (fun H locs hP hD hS => ?_)
            have hP : va_P (gD g) vwCl [(aR, .inr (11, [.ref aG, .ref aP, .ref aH, .ref aY, .ref aT, .ref aS, .ref aF, .ref aX, .int (iI pr), .int (iI tk), .int (iI tol), .int (iI hou)])), (aY, .inr (10, [.ref aYh, .ref aYt, .ref aYc])), (aYh, .inl (gI g, 3, .inl (ar ht))), (aYt, .inl (gI g, 36, .inl (ar yt))), (aYc, .inl (gI g, 36, .inl (ar yc))), (aN, .inl (gI g, 1960, .inl (ar (up (up (up F (10 + sta) v_52) (10 + stb) v_54) (1818 + 24 * stb + 2 * (h3 + 1)) v_47))))] H := hP
            have hD : va_D A [(aR, .inr (11, [.ref aG, .ref aP, .ref aH, .ref aY, .ref aT, .ref aS, .ref aF, .ref aX, .int (iI pr), .int (iI tk), .int (iI tol), .int (iI hou)])), (aY, .inr (10, [.ref aYh, .ref aYt, .ref aYc])), (aYh, .inl (gI g, 3, .inl (ar ht))), (aYt, .inl (gI g, 36, .inl (ar yt))), (aYc, .inl (gI g, 36, .inl (ar yc))), (aN, .inl (gI g, 1960, .inl (ar (up (up (up F (10 + sta) v_52) (10 + stb) v_54) (1818 + 24 * stb + 2 * (h3 + 1)) v_47))))] := hD
            refine lv_aload_n hx hb dL_isRestacked_105 rfl (lv_at hl 3 rfl) ?_
            refine lv_aload_n hx hb dL_isRestacked_106 rfl (lv_at hl 3 rfl) ?_
            refine lv_iload_n hx hb dL_isRestacked_107 rfl (lv_at hl 5 rfl) ?_
            refine x_calli (S := Unit) (wc := [(aN, .inl (gI g, 1960, .inl (ar (up (up (up F (10 + sta) v_52) (10 + stb) v_54) (1818 + 24 * stb + 2 * (h3 + 1)) v_47))))]) (wr := [(aR, .inr (11, [.ref aG, .ref aP, .ref aH, .ref aY, .ref aT, .ref aS, .ref aF, .ref aX, .int (iI pr), .int (iI tk), .int (iI tol), .int (iI hou)])), (aY, .inr (10, [.ref aYh, .ref aYt, .ref aYc])), (aYh, .inl (gI g, 3, .inl (ar ht))), (aYt, .inl (gI g, 36, .inl (ar yt))), (aYc, .inl (gI g, 36, .inl (ar yc)))]) hC hP hD hS hA [5] [0, 1, 2, 3, 4] [0, 1, 2, 3, 4, 5] rfl rfl (fun hpre => va_runS (As := [.ref aN, .int (iI stb)]) (rest := [.ref aN]) ⟨hx, hb, hml, hown, hts⟩ (c_L_topOf l g H.size aN stb (up (up (up F (10 + sta) v_52) (10 + stb) v_54) (1818 + 24 * stb + 2 * (h3 + 1)) v_47) (by first | (first | assumption | omega | exact bnd_up (by assumption) (by omega) (by omega)) | fail "q8")) (va_cwS 2 hts gL_isRestacked_L_topOf rfl rfl rfl (by decide +kernel) ⟨Nat.le_of_ble_eq_true rfl, Nat.le_of_ble_eq_true rfl⟩) ⟨xB_blind, hpre _⟩ rfl rfl hl.1 rfl (lv_room (Nat.le_of_ble_eq_true rfl)) dL_isRestacked_108 ⟨Nat.le_of_ble_eq_true rfl, Nat.le_of_ble_eq_true rfl⟩) (fun (u : Unit) => [(aR, .inr (11, [.ref aG, .ref aP, .ref aH, .ref aY, .ref aT, .ref aS, .ref aF, .ref aX, .int (iI pr), .int (iI tk), .int (iI tol), .int (iI hou)])), (aY, .inr (10, [.ref aYh, .ref aYt, .ref aYc])), (aYh, .inl (gI g, 3, .inl (ar ht))), (aYt, .inl (gI g, 36, .inl (ar yt))), (aYc, .inl (gI g, 36, .inl (ar yc))), (aN, .inl (gI g, 1960, .inl (ar (up (up (up F (10 + sta) v_52) (10 + stb) v_54) (1818 + 24 * stb + 2 * (h3 + 1)) v_47))))]) rfl rfl (by decide) (fun _ => rfl) rfl (fun u v_56 H locs hv_56 pv_56 hP hD hS => ?_)
            have hP : va_P (gD g) vwCl [(aR, .inr (11, [.ref aG, .ref aP, .ref aH, .ref aY, .ref aT, .ref aS, .ref aF, .ref aX, .int (iI pr), .int (iI tk), .int (iI tol), .int (iI hou)])), (aY, .inr (10, [.ref aYh, .ref aYt, .ref aYc])), (aYh, .inl (gI g, 3, .inl (ar ht))), (aYt, .inl (gI g, 36, .inl (ar yt))), (aYc, .inl (gI g, 36, .inl (ar yc))), (aN, .inl (gI g, 1960, .inl (ar (up (up (up F (10 + sta) v_52) (10 + stb) v_54) (1818 + 24 * stb + 2 * (h3 + 1)) v_47))))] H := hP
            have hD : va_D A [(aR, .inr (11, [.ref aG, .ref aP, .ref aH, .ref aY, .ref aT, .ref aS, .ref aF, .ref aX, .int (iI pr), .int (iI tk), .int (iI tol), .int (iI hou)])), (aY, .inr (10, [.ref aYh, .ref aYt, .ref aYc])), (aYh, .inl (gI g, 3, .inl (ar ht))), (aYt, .inl (gI g, 36, .inl (ar yt))), (aYc, .inl (gI g, 36, .inl (ar yc))), (aN, .inl (gI g, 1960, .inl (ar (up (up (up F (10 + sta) v_52) (10 + stb) v_54) (1818 + 24 * stb + 2 * (h3 + 1)) v_47))))] := hD
            have hv_56 : v_56 = 1818 + 24 * stb + 2 * (up (up (up F (10 + sta) v_52) (10 + stb) v_54) (1818 + 24 * stb + 2 * (h3 + 1)) v_47) (10 + stb) := hv_56
            have yv_56 : v_56 = 1818 + 24 * stb + 2 * (h3 + 1) := by
                first
                | (
                   rw [hv_56]
                   (repeat (first | rw [up_at _ _ (by omega)] | rw [up_ne _ _ (by omega)]))
                   omega)
                | fail "q9"
            refine x_top yv_56 ?_
            refine x_iconst hx hb dL_isRestacked_111 ?_
            refine x_iadd hx hb dL_isRestacked_112 ?_
            refine lv_iload hx hb dL_isRestacked_113 (lv_at hl 0 rfl) ?_
            refine x_iast hx hb hK hP hD hS 5 0 rfl rfl (by omega) (by omega) (Nat.le_of_ble_eq_true rfl) dL_isRestacked_115 (fun H locs hP hD hS => ?_)
            have hP : va_P (gD g) vwCl [(aR, .inr (11, [.ref aG, .ref aP, .ref aH, .ref aY, .ref aT, .ref aS, .ref aF, .ref aX, .int (iI pr), .int (iI tk), .int (iI tol), .int (iI hou)])), (aY, .inr (10, [.ref aYh, .ref aYt, .ref aYc])), (aYh, .inl (gI g, 3, .inl (ar ht))), (aYt, .inl (gI g, 36, .inl (ar yt))), (aYc, .inl (gI g, 36, .inl (ar yc))), (aN, .inl (gI g, 1960, .inl (ar (up (up (up (up F (10 + sta) v_52) (10 + stb) v_54) (1818 + 24 * stb + 2 * (h3 + 1)) v_47) ((1818 + 24 * stb + 2 * (h3 + 1)) + 1) v_50))))] H := hP
            have hD : va_D A [(aR, .inr (11, [.ref aG, .ref aP, .ref aH, .ref aY, .ref aT, .ref aS, .ref aF, .ref aX, .int (iI pr), .int (iI tk), .int (iI tol), .int (iI hou)])), (aY, .inr (10, [.ref aYh, .ref aYt, .ref aYc])), (aYh, .inl (gI g, 3, .inl (ar ht))), (aYt, .inl (gI g, 36, .inl (ar yt))), (aYc, .inl (gI g, 36, .inl (ar yc))), (aN, .inl (gI g, 1960, .inl (ar (up (up (up (up F (10 + sta) v_52) (10 + stb) v_54) (1818 + 24 * stb + 2 * (h3 + 1)) v_47) ((1818 + 24 * stb + 2 * (h3 + 1)) + 1) v_50))))] := hD
            refine lv_aload_n hx hb dL_isRestacked_116 rfl (lv_at hl 2 rfl) ?_
            refine lv_iload_n hx hb dL_isRestacked_117 rfl (lv_at hl 4 rfl) ?_
            refine lv_iload_n hx hb dL_isRestacked_118 rfl (lv_at hl 5 rfl) ?_
            refine x_calli (S := Unit) (wc := [(aR, .inr (11, [.ref aG, .ref aP, .ref aH, .ref aY, .ref aT, .ref aS, .ref aF, .ref aX, .int (iI pr), .int (iI tk), .int (iI tol), .int (iI hou)])), (aY, .inr (10, [.ref aYh, .ref aYt, .ref aYc])), (aYh, .inl (gI g, 3, .inl (ar ht))), (aYt, .inl (gI g, 36, .inl (ar yt))), (aYc, .inl (gI g, 36, .inl (ar yc)))]) (wr := [(aN, .inl (gI g, 1960, .inl (ar (up (up (up (up F (10 + sta) v_52) (10 + stb) v_54) (1818 + 24 * stb + 2 * (h3 + 1)) v_47) ((1818 + 24 * stb + 2 * (h3 + 1)) + 1) v_50))))]) hC hP hD hS hA [0, 1, 2, 3, 4] [5] [1, 2, 3, 4, 5, 0] rfl rfl (fun hpre => vx_runSW (As := [.ref aR, .int (iI sta), .int (iI stb)]) (rest := []) ⟨hx, hb, hml, hown, hts⟩ (c_L_restack l hflags g H.size aR aG aP aH aY aT aS aF aX aYh aYt aYc pr tk tol hou sta stb ht yt yc (by first | (first | assumption | omega | exact bnd_up (by assumption) (by omega) (by omega)) | fail "q8") (by first | (first | assumption | omega | exact bnd_up (by assumption) (by omega) (by omega)) | fail "q8") (by first | (first | assumption | omega | exact bnd_up (by assumption) (by omega) (by omega)) | fail "q8")) (vx_cwSW 3 hts gL_isRestacked_L_restack rfl rfl rfl (by decide +kernel) ⟨Nat.le_of_ble_eq_true rfl, Nat.le_of_ble_eq_true rfl⟩) ⟨xB_blind, hpre _⟩ rfl rfl hl.1 rfl (lv_room (Nat.le_of_ble_eq_true rfl)) dL_isRestacked_119 ⟨Nat.le_of_ble_eq_true rfl, Nat.le_of_ble_eq_true rfl⟩) (fun (u : Unit) => [(aR, .inr (11, [.ref aG, .ref aP, .ref aH, .ref aY, .ref aT, .ref aS, .ref aF, .ref aX, .int (iI pr), .int (iI tk), .int (iI tol), .int (iI hou)])), (aY, .inr (10, [.ref aYh, .ref aYt, .ref aYc])), (aYh, .inl (gI g, 3, .inl (ar (if reT ht sta stb = 0 then (rsH ht sta stb) else ht)))), (aYt, .inl (gI g, 36, .inl (ar (if reT ht sta stb = 0 then (rsF ht yt sta stb) else yt)))), (aYc, .inl (gI g, 36, .inl (ar (if reT ht sta stb = 0 then (rsF ht yc sta stb) else yc)))), (aN, .inl (gI g, 1960, .inl (ar (up (up (up (up F (10 + sta) v_52) (10 + stb) v_54) (1818 + 24 * stb + 2 * (h3 + 1)) v_47) ((1818 + 24 * stb + 2 * (h3 + 1)) + 1) v_50))))]) rfl rfl (by decide) (fun _ => rfl) rfl (fun u v_57 H locs hv_57 pv_57 hP hD hS => ?_)
            have hP : va_P (gD g) vwCl [(aR, .inr (11, [.ref aG, .ref aP, .ref aH, .ref aY, .ref aT, .ref aS, .ref aF, .ref aX, .int (iI pr), .int (iI tk), .int (iI tol), .int (iI hou)])), (aY, .inr (10, [.ref aYh, .ref aYt, .ref aYc])), (aYh, .inl (gI g, 3, .inl (ar (if reT ht sta stb = 0 then (rsH ht sta stb) else ht)))), (aYt, .inl (gI g, 36, .inl (ar (if reT ht sta stb = 0 then (rsF ht yt sta stb) else yt)))), (aYc, .inl (gI g, 36, .inl (ar (if reT ht sta stb = 0 then (rsF ht yc sta stb) else yc)))), (aN, .inl (gI g, 1960, .inl (ar (up (up (up (up F (10 + sta) v_52) (10 + stb) v_54) (1818 + 24 * stb + 2 * (h3 + 1)) v_47) ((1818 + 24 * stb + 2 * (h3 + 1)) + 1) v_50))))] H := hP
            have hD : va_D A [(aR, .inr (11, [.ref aG, .ref aP, .ref aH, .ref aY, .ref aT, .ref aS, .ref aF, .ref aX, .int (iI pr), .int (iI tk), .int (iI tol), .int (iI hou)])), (aY, .inr (10, [.ref aYh, .ref aYt, .ref aYc])), (aYh, .inl (gI g, 3, .inl (ar (if reT ht sta stb = 0 then (rsH ht sta stb) else ht)))), (aYt, .inl (gI g, 36, .inl (ar (if reT ht sta stb = 0 then (rsF ht yt sta stb) else yt)))), (aYc, .inl (gI g, 36, .inl (ar (if reT ht sta stb = 0 then (rsF ht yc sta stb) else yc)))), (aN, .inl (gI g, 1960, .inl (ar (up (up (up (up F (10 + sta) v_52) (10 + stb) v_54) (1818 + 24 * stb + 2 * (h3 + 1)) v_47) ((1818 + 24 * stb + 2 * (h3 + 1)) + 1) v_50))))] := hD
            have hv_57 : v_57 = (if reT ht sta stb = 0 then rsH ht sta stb stb else -900000 - reT ht sta stb) := hv_57
            refine lv_aload_n hx hb dL_isRestacked_122 rfl (lv_at hl 3 rfl) ?_
            refine x_bipush hx hb dL_isRestacked_123 (by decide) ?_
            refine lv_iload_n hx hb dL_isRestacked_125 rfl (lv_at hl 5 rfl) ?_
            refine x_iadd hx hb dL_isRestacked_126 ?_
            refine x_iald hx hb hK hP 5 0 rfl rfl (by omega) (by omega) (Nat.le_of_ble_eq_true rfl) dL_isRestacked_127 (fun v_58 hv_58 => ?_)
            (repeat (first | rw [up_at _ _ (by omega)] at hv_58 | rw [up_ne _ _ (by omega)] at hv_58))
            refine x_top (show v_58 = h3 + 1 by
                first
                | (
                   omega)
                | fail "q9") ?_
            refine x_cmp_ne (tgt := 135) hx hb (by omega) (by omega) dL_isRestacked_128 (by decide) (fun c_59 => ?_) (fun c_59 => ?_)
            · skip
              exfalso
              first
              | (
                 omega)
              | fail "q9"
            · skip
              refine x_iconst hx hb dL_isRestacked_131 ?_
              refine lv_goto (tgt := 136) hx hb dL_isRestacked_132 (by decide) ?_
              have q_60 : (up (up (up (up F (10 + sta) v_52) (10 + stb) v_54) (1818 + 24 * stb + 2 * (h3 + 1)) v_47) ((1818 + 24 * stb + 2 * (h3 + 1)) + 1) v_50) = (up (up (up (up F (10 + sta) v_52) (10 + stb) v_54) (1818 + 24 * stb + 2 * (h3 + 1)) v_47) ((1818 + 24 * stb + 2 * (h3 + 1)) + 1) v_50) := by
                first
                | (
                   first | rfl | omega | (subst_vars; first | rfl | omega))
                | fail "q9"
              have hw_61 := (congrArg (fun (z0 : Int → Int) => ([(aR, .inr (11, [.ref aG, .ref aP, .ref aH, .ref aY, .ref aT, .ref aS, .ref aF, .ref aX, .int (iI pr), .int (iI tk), .int (iI tol), .int (iI hou)])), (aY, .inr (10, [.ref aYh, .ref aYt, .ref aYc])), (aYh, .inl (gI g, 3, .inl (ar (if reT ht sta stb = 0 then (rsH ht sta stb) else ht)))), (aYt, .inl (gI g, 36, .inl (ar (if reT ht sta stb = 0 then (rsF ht yt sta stb) else yt)))), (aYc, .inl (gI g, 36, .inl (ar (if reT ht sta stb = 0 then (rsF ht yc sta stb) else yc)))), (aN, .inl (gI g, 1960, .inl (ar z0)))] : va_W)) q_60.symm)
              rw [hQ9]
              exact x_iret hx hb hr hlocks hP hD hS (S := (Int → Int)) (by decide) dL_isRestacked_136 (up (up (up (up F (10 + sta) v_52) (10 + stb) v_54) (1818 + 24 * stb + 2 * (h3 + 1)) v_47) ((1818 + 24 * stb + 2 * (h3 + 1)) + 1) v_50) (by
                  first
                  | (
                     exact (bI_t True.intro).symm)
                  | fail "q9") (by
                  first
                  | (
                     first | (rw [if_pos hT]; rw [← hh3e]; intro j hj; simp only [rkF]; by_cases qa : j = 10 + stb; ((repeat (first | rw [up_at _ _ (by omega)] | rw [up_ne _ _ (by omega)] | rw [if_pos (by omega)] | rw [if_neg (by omega)])); try omega); by_cases qb : j = 10 + sta; ((repeat (first | rw [up_at _ _ (by omega)] | rw [up_ne _ _ (by omega)] | rw [if_pos (by omega)] | rw [if_neg (by omega)])); try omega); by_cases qc : j = 1820 + 24 * stb + 2 * h3; ((repeat (first | rw [up_at _ _ (by omega)] | rw [up_ne _ _ (by omega)] | rw [if_pos (by omega)] | rw [if_neg (by omega)])); try omega); by_cases qd : j = 1821 + 24 * stb + 2 * h3; ((repeat (first | rw [up_at _ _ (by omega)] | rw [up_ne _ _ (by omega)] | rw [if_pos (by omega)] | rw [if_neg (by omega)])); try omega); ((repeat (first | rw [up_at _ _ (by omega)] | rw [up_ne _ _ (by omega)] | rw [if_pos (by omega)] | rw [if_neg (by omega)])); try omega)) | (rw [if_neg (by omega)]; exact agr_r _))
                  | fail "q9") hw_61 (Nat.le_of_ble_eq_true rfl) (Nat.le_of_ble_eq_true rfl)
          · skip
            have hT : reT ht sta stb = 0 := by unfold reT; omega
            have hFt2 := hFt (by omega)
            obtain ⟨h3, hh3e⟩ : ∃ z, z = up ht sta (ht sta - 1) stb := ⟨_, rfl⟩
            have hh3 : 0 ≤ h3 ∧ h3 < 12 := by rw [hh3e]; simp only [up]; omega
            have hrs : rsH ht sta stb stb = h3 + 1 := by unfold rsH; rw [up_eq, hh3e]
            refine lv_aload_n hx hb dL_isRestacked_56 rfl (lv_at hl 1 rfl) ?_
            refine lv_aload_n hx hb dL_isRestacked_57 rfl (lv_at hl 1 rfl) ?_
            refine lv_iload_n hx hb dL_isRestacked_58 rfl (lv_at hl 2 rfl) ?_
            refine x_calli (S := Unit) (wc := [(aN, .inl (gI g, 1960, .inl (ar F)))]) (wr := [(aR, .inr (11, [.ref aG, .ref aP, .ref aH, .ref aY, .ref aT, .ref aS, .ref aF, .ref aX, .int (iI pr), .int (iI tk), .int (iI tol), .int (iI hou)])), (aY, .inr (10, [.ref aYh, .ref aYt, .ref aYc])), (aYh, .inl (gI g, 3, .inl (ar ht))), (aYt, .inl (gI g, 36, .inl (ar yt))), (aYc, .inl (gI g, 36, .inl (ar yc)))]) hC hP hD hS hA [5] [0, 1, 2, 3, 4] [0, 1, 2, 3, 4, 5] rfl rfl (fun hpre => va_runS (As := [.ref aN, .int (iI sta)]) (rest := [.ref aN]) ⟨hx, hb, hml, hown, hts⟩ (c_L_topOf l g H.size aN sta F (by first | (first | assumption | omega | exact bnd_up (by assumption) (by omega) (by omega)) | fail "q8")) (va_cwS 2 hts gL_isRestacked_L_topOf rfl rfl rfl (by decide +kernel) ⟨Nat.le_of_ble_eq_true rfl, Nat.le_of_ble_eq_true rfl⟩) ⟨xB_blind, hpre _⟩ rfl rfl hl.1 rfl (lv_room (Nat.le_of_ble_eq_true rfl)) dL_isRestacked_59 ⟨Nat.le_of_ble_eq_true rfl, Nat.le_of_ble_eq_true rfl⟩) (fun (u : Unit) => [(aR, .inr (11, [.ref aG, .ref aP, .ref aH, .ref aY, .ref aT, .ref aS, .ref aF, .ref aX, .int (iI pr), .int (iI tk), .int (iI tol), .int (iI hou)])), (aY, .inr (10, [.ref aYh, .ref aYt, .ref aYc])), (aYh, .inl (gI g, 3, .inl (ar ht))), (aYt, .inl (gI g, 36, .inl (ar yt))), (aYc, .inl (gI g, 36, .inl (ar yc))), (aN, .inl (gI g, 1960, .inl (ar F)))]) rfl rfl (by decide) (fun _ => rfl) rfl (fun u v_62 H locs hv_62 pv_62 hP hD hS => ?_)
            have hP : va_P (gD g) vwCl [(aR, .inr (11, [.ref aG, .ref aP, .ref aH, .ref aY, .ref aT, .ref aS, .ref aF, .ref aX, .int (iI pr), .int (iI tk), .int (iI tol), .int (iI hou)])), (aY, .inr (10, [.ref aYh, .ref aYt, .ref aYc])), (aYh, .inl (gI g, 3, .inl (ar ht))), (aYt, .inl (gI g, 36, .inl (ar yt))), (aYc, .inl (gI g, 36, .inl (ar yc))), (aN, .inl (gI g, 1960, .inl (ar F)))] H := hP
            have hD : va_D A [(aR, .inr (11, [.ref aG, .ref aP, .ref aH, .ref aY, .ref aT, .ref aS, .ref aF, .ref aX, .int (iI pr), .int (iI tk), .int (iI tol), .int (iI hou)])), (aY, .inr (10, [.ref aYh, .ref aYt, .ref aYc])), (aYh, .inl (gI g, 3, .inl (ar ht))), (aYt, .inl (gI g, 36, .inl (ar yt))), (aYc, .inl (gI g, 36, .inl (ar yc))), (aN, .inl (gI g, 1960, .inl (ar F)))] := hD
            have hv_62 : v_62 = 1818 + 24 * sta + 2 * F (10 + sta) := hv_62
            have yv_62 : v_62 = 1818 + 24 * sta + 2 * ht sta := by
                first
                | (
                   rw [hv_62]
                   (repeat (first | rw [up_at _ _ (by omega)] | rw [up_ne _ _ (by omega)]))
                   omega)
                | fail "q9"
            refine x_top yv_62 ?_
            refine x_iald hx hb hK hP 5 0 rfl rfl (by omega) (by omega) (Nat.le_of_ble_eq_true rfl) dL_isRestacked_62 (fun v_63 hv_63 => ?_)
            refine x_top (show v_63 = yt (sta * 12 + ht sta - 1) by
                first
                | (
                   rw [hv_63]; exact hFt2.1)
                | fail "q9") ?_
            obtain ⟨v_64, ev_64⟩ : ∃ z : Int, z = yt (sta * 12 + ht sta - 1) := ⟨_, rfl⟩
            refine x_top ev_64.symm ?_
            refine lv_istore (lv' := [(4, .int (iI v_64)), (0, .ref aR), (1, .ref aN), (2, .int (iI sta)), (3, .int (iI stb))]) hx hb dL_isRestacked_63 hl (by decide) rfl (fun ls hl => ?_)
            refine lv_aload_n hx hb dL_isRestacked_65 rfl (lv_at hl 2 rfl) ?_
            refine lv_aload_n hx hb dL_isRestacked_66 rfl (lv_at hl 2 rfl) ?_
            refine lv_iload_n hx hb dL_isRestacked_67 rfl (lv_at hl 3 rfl) ?_
            refine x_calli (S := Unit) (wc := [(aN, .inl (gI g, 1960, .inl (ar F)))]) (wr := [(aR, .inr (11, [.ref aG, .ref aP, .ref aH, .ref aY, .ref aT, .ref aS, .ref aF, .ref aX, .int (iI pr), .int (iI tk), .int (iI tol), .int (iI hou)])), (aY, .inr (10, [.ref aYh, .ref aYt, .ref aYc])), (aYh, .inl (gI g, 3, .inl (ar ht))), (aYt, .inl (gI g, 36, .inl (ar yt))), (aYc, .inl (gI g, 36, .inl (ar yc)))]) hC hP hD hS hA [5] [0, 1, 2, 3, 4] [0, 1, 2, 3, 4, 5] rfl rfl (fun hpre => va_runS (As := [.ref aN, .int (iI sta)]) (rest := [.ref aN]) ⟨hx, hb, hml, hown, hts⟩ (c_L_topOf l g H.size aN sta F (by first | (first | assumption | omega | exact bnd_up (by assumption) (by omega) (by omega)) | fail "q8")) (va_cwS 2 hts gL_isRestacked_L_topOf rfl rfl rfl (by decide +kernel) ⟨Nat.le_of_ble_eq_true rfl, Nat.le_of_ble_eq_true rfl⟩) ⟨xB_blind, hpre _⟩ rfl rfl hl.1 rfl (lv_room (Nat.le_of_ble_eq_true rfl)) dL_isRestacked_68 ⟨Nat.le_of_ble_eq_true rfl, Nat.le_of_ble_eq_true rfl⟩) (fun (u : Unit) => [(aR, .inr (11, [.ref aG, .ref aP, .ref aH, .ref aY, .ref aT, .ref aS, .ref aF, .ref aX, .int (iI pr), .int (iI tk), .int (iI tol), .int (iI hou)])), (aY, .inr (10, [.ref aYh, .ref aYt, .ref aYc])), (aYh, .inl (gI g, 3, .inl (ar ht))), (aYt, .inl (gI g, 36, .inl (ar yt))), (aYc, .inl (gI g, 36, .inl (ar yc))), (aN, .inl (gI g, 1960, .inl (ar F)))]) rfl rfl (by decide) (fun _ => rfl) rfl (fun u v_65 H locs hv_65 pv_65 hP hD hS => ?_)
            have hP : va_P (gD g) vwCl [(aR, .inr (11, [.ref aG, .ref aP, .ref aH, .ref aY, .ref aT, .ref aS, .ref aF, .ref aX, .int (iI pr), .int (iI tk), .int (iI tol), .int (iI hou)])), (aY, .inr (10, [.ref aYh, .ref aYt, .ref aYc])), (aYh, .inl (gI g, 3, .inl (ar ht))), (aYt, .inl (gI g, 36, .inl (ar yt))), (aYc, .inl (gI g, 36, .inl (ar yc))), (aN, .inl (gI g, 1960, .inl (ar F)))] H := hP
            have hD : va_D A [(aR, .inr (11, [.ref aG, .ref aP, .ref aH, .ref aY, .ref aT, .ref aS, .ref aF, .ref aX, .int (iI pr), .int (iI tk), .int (iI tol), .int (iI hou)])), (aY, .inr (10, [.ref aYh, .ref aYt, .ref aYc])), (aYh, .inl (gI g, 3, .inl (ar ht))), (aYt, .inl (gI g, 36, .inl (ar yt))), (aYc, .inl (gI g, 36, .inl (ar yc))), (aN, .inl (gI g, 1960, .inl (ar F)))] := hD
            have hv_65 : v_65 = 1818 + 24 * sta + 2 * F (10 + sta) := hv_65
            have yv_65 : v_65 = 1818 + 24 * sta + 2 * ht sta := by
                first
                | (
                   rw [hv_65]
                   (repeat (first | rw [up_at _ _ (by omega)] | rw [up_ne _ _ (by omega)]))
                   omega)
                | fail "q9"
            refine x_top yv_65 ?_
            refine x_iconst hx hb dL_isRestacked_71 ?_
            refine x_iadd hx hb dL_isRestacked_72 ?_
            refine x_iald hx hb hK hP 5 0 rfl rfl (by omega) (by omega) (Nat.le_of_ble_eq_true rfl) dL_isRestacked_73 (fun v_66 hv_66 => ?_)
            refine x_top (show v_66 = yc (sta * 12 + ht sta - 1) by
                first
                | (
                   rw [hv_66]; exact hFt2.2)
                | fail "q9") ?_
            obtain ⟨v_67, ev_67⟩ : ∃ z : Int, z = yc (sta * 12 + ht sta - 1) := ⟨_, rfl⟩
            refine x_top ev_67.symm ?_
            refine lv_istore (lv' := [(5, .int (iI v_67)), (4, .int (iI v_64)), (0, .ref aR), (1, .ref aN), (2, .int (iI sta)), (3, .int (iI stb))]) hx hb dL_isRestacked_74 hl (by decide) rfl (fun ls hl => ?_)
            refine lv_aload_n hx hb dL_isRestacked_76 rfl (lv_at hl 3 rfl) ?_
            refine x_bipush hx hb dL_isRestacked_77 (by decide) ?_
            refine lv_iload_n hx hb dL_isRestacked_79 rfl (lv_at hl 4 rfl) ?_
            refine x_iadd hx hb dL_isRestacked_80 ?_
            refine lv_dup2_11 hx hb dL_isRestacked_81 rfl rfl ?_
            refine x_iald hx hb hK hP 5 0 rfl rfl (by omega) (by omega) (Nat.le_of_ble_eq_true rfl) dL_isRestacked_82 (fun v_68 hv_68 => ?_)
            refine x_top (show v_68 = ht sta by
                first
                | (
                   omega)
                | fail "q9") ?_
            refine x_iconst hx hb dL_isRestacked_83 ?_
            refine x_isub hx hb dL_isRestacked_84 ?_
            obtain ⟨v_69, ev_69⟩ : ∃ z : Int, z = (ht sta) - 1 := ⟨_, rfl⟩
            refine x_top ev_69.symm ?_
            refine x_iast hx hb hK hP hD hS 5 0 rfl rfl (by omega) (by omega) (Nat.le_of_ble_eq_true rfl) dL_isRestacked_85 (fun H locs hP hD hS => ?_)
            have hP : va_P (gD g) vwCl [(aR, .inr (11, [.ref aG, .ref aP, .ref aH, .ref aY, .ref aT, .ref aS, .ref aF, .ref aX, .int (iI pr), .int (iI tk), .int (iI tol), .int (iI hou)])), (aY, .inr (10, [.ref aYh, .ref aYt, .ref aYc])), (aYh, .inl (gI g, 3, .inl (ar ht))), (aYt, .inl (gI g, 36, .inl (ar yt))), (aYc, .inl (gI g, 36, .inl (ar yc))), (aN, .inl (gI g, 1960, .inl (ar (up F (10 + sta) v_69))))] H := hP
            have hD : va_D A [(aR, .inr (11, [.ref aG, .ref aP, .ref aH, .ref aY, .ref aT, .ref aS, .ref aF, .ref aX, .int (iI pr), .int (iI tk), .int (iI tol), .int (iI hou)])), (aY, .inr (10, [.ref aYh, .ref aYt, .ref aYc])), (aYh, .inl (gI g, 3, .inl (ar ht))), (aYt, .inl (gI g, 36, .inl (ar yt))), (aYc, .inl (gI g, 36, .inl (ar yc))), (aN, .inl (gI g, 1960, .inl (ar (up F (10 + sta) v_69))))] := hD
            refine lv_aload_n hx hb dL_isRestacked_86 rfl (lv_at hl 3 rfl) ?_
            refine x_bipush hx hb dL_isRestacked_87 (by decide) ?_
            refine lv_iload_n hx hb dL_isRestacked_89 rfl (lv_at hl 5 rfl) ?_
            refine x_iadd hx hb dL_isRestacked_90 ?_
            refine lv_dup2_11 hx hb dL_isRestacked_91 rfl rfl ?_
            refine x_iald hx hb hK hP 5 0 rfl rfl (by omega) (by omega) (Nat.le_of_ble_eq_true rfl) dL_isRestacked_92 (fun v_70 hv_70 => ?_)
            (repeat (first | rw [up_at _ _ (by omega)] at hv_70 | rw [up_ne _ _ (by omega)] at hv_70))
            refine x_top (show v_70 = h3 by
                first
                | (
                   rw [hh3e]
                   simp only [up]
                   omega)
                | fail "q9") ?_
            refine x_iconst hx hb dL_isRestacked_93 ?_
            refine x_iadd hx hb dL_isRestacked_94 ?_
            obtain ⟨v_71, ev_71⟩ : ∃ z : Int, z = h3 + 1 := ⟨_, rfl⟩
            refine x_top ev_71.symm ?_
            refine x_iast hx hb hK hP hD hS 5 0 rfl rfl (by omega) (by omega) (Nat.le_of_ble_eq_true rfl) dL_isRestacked_95 (fun H locs hP hD hS => ?_)
            have hP : va_P (gD g) vwCl [(aR, .inr (11, [.ref aG, .ref aP, .ref aH, .ref aY, .ref aT, .ref aS, .ref aF, .ref aX, .int (iI pr), .int (iI tk), .int (iI tol), .int (iI hou)])), (aY, .inr (10, [.ref aYh, .ref aYt, .ref aYc])), (aYh, .inl (gI g, 3, .inl (ar ht))), (aYt, .inl (gI g, 36, .inl (ar yt))), (aYc, .inl (gI g, 36, .inl (ar yc))), (aN, .inl (gI g, 1960, .inl (ar (up (up F (10 + sta) v_69) (10 + stb) v_71))))] H := hP
            have hD : va_D A [(aR, .inr (11, [.ref aG, .ref aP, .ref aH, .ref aY, .ref aT, .ref aS, .ref aF, .ref aX, .int (iI pr), .int (iI tk), .int (iI tol), .int (iI hou)])), (aY, .inr (10, [.ref aYh, .ref aYt, .ref aYc])), (aYh, .inl (gI g, 3, .inl (ar ht))), (aYt, .inl (gI g, 36, .inl (ar yt))), (aYc, .inl (gI g, 36, .inl (ar yc))), (aN, .inl (gI g, 1960, .inl (ar (up (up F (10 + sta) v_69) (10 + stb) v_71))))] := hD
            refine lv_aload_n hx hb dL_isRestacked_96 rfl (lv_at hl 3 rfl) ?_
            refine lv_aload_n hx hb dL_isRestacked_97 rfl (lv_at hl 3 rfl) ?_
            refine lv_iload_n hx hb dL_isRestacked_98 rfl (lv_at hl 5 rfl) ?_
            refine x_calli (S := Unit) (wc := [(aN, .inl (gI g, 1960, .inl (ar (up (up F (10 + sta) v_69) (10 + stb) v_71))))]) (wr := [(aR, .inr (11, [.ref aG, .ref aP, .ref aH, .ref aY, .ref aT, .ref aS, .ref aF, .ref aX, .int (iI pr), .int (iI tk), .int (iI tol), .int (iI hou)])), (aY, .inr (10, [.ref aYh, .ref aYt, .ref aYc])), (aYh, .inl (gI g, 3, .inl (ar ht))), (aYt, .inl (gI g, 36, .inl (ar yt))), (aYc, .inl (gI g, 36, .inl (ar yc)))]) hC hP hD hS hA [5] [0, 1, 2, 3, 4] [0, 1, 2, 3, 4, 5] rfl rfl (fun hpre => va_runS (As := [.ref aN, .int (iI stb)]) (rest := [.ref aN]) ⟨hx, hb, hml, hown, hts⟩ (c_L_topOf l g H.size aN stb (up (up F (10 + sta) v_69) (10 + stb) v_71) (by first | (first | assumption | omega | exact bnd_up (by assumption) (by omega) (by omega)) | fail "q8")) (va_cwS 2 hts gL_isRestacked_L_topOf rfl rfl rfl (by decide +kernel) ⟨Nat.le_of_ble_eq_true rfl, Nat.le_of_ble_eq_true rfl⟩) ⟨xB_blind, hpre _⟩ rfl rfl hl.1 rfl (lv_room (Nat.le_of_ble_eq_true rfl)) dL_isRestacked_99 ⟨Nat.le_of_ble_eq_true rfl, Nat.le_of_ble_eq_true rfl⟩) (fun (u : Unit) => [(aR, .inr (11, [.ref aG, .ref aP, .ref aH, .ref aY, .ref aT, .ref aS, .ref aF, .ref aX, .int (iI pr), .int (iI tk), .int (iI tol), .int (iI hou)])), (aY, .inr (10, [.ref aYh, .ref aYt, .ref aYc])), (aYh, .inl (gI g, 3, .inl (ar ht))), (aYt, .inl (gI g, 36, .inl (ar yt))), (aYc, .inl (gI g, 36, .inl (ar yc))), (aN, .inl (gI g, 1960, .inl (ar (up (up F (10 + sta) v_69) (10 + stb) v_71))))]) rfl rfl (by decide) (fun _ => rfl) rfl (fun u v_72 H locs hv_72 pv_72 hP hD hS => ?_)
            have hP : va_P (gD g) vwCl [(aR, .inr (11, [.ref aG, .ref aP, .ref aH, .ref aY, .ref aT, .ref aS, .ref aF, .ref aX, .int (iI pr), .int (iI tk), .int (iI tol), .int (iI hou)])), (aY, .inr (10, [.ref aYh, .ref aYt, .ref aYc])), (aYh, .inl (gI g, 3, .inl (ar ht))), (aYt, .inl (gI g, 36, .inl (ar yt))), (aYc, .inl (gI g, 36, .inl (ar yc))), (aN, .inl (gI g, 1960, .inl (ar (up (up F (10 + sta) v_69) (10 + stb) v_71))))] H := hP
            have hD : va_D A [(aR, .inr (11, [.ref aG, .ref aP, .ref aH, .ref aY, .ref aT, .ref aS, .ref aF, .ref aX, .int (iI pr), .int (iI tk), .int (iI tol), .int (iI hou)])), (aY, .inr (10, [.ref aYh, .ref aYt, .ref aYc])), (aYh, .inl (gI g, 3, .inl (ar ht))), (aYt, .inl (gI g, 36, .inl (ar yt))), (aYc, .inl (gI g, 36, .inl (ar yc))), (aN, .inl (gI g, 1960, .inl (ar (up (up F (10 + sta) v_69) (10 + stb) v_71))))] := hD
            have hv_72 : v_72 = 1818 + 24 * stb + 2 * (up (up F (10 + sta) v_69) (10 + stb) v_71) (10 + stb) := hv_72
            have yv_72 : v_72 = 1818 + 24 * stb + 2 * (h3 + 1) := by
                first
                | (
                   rw [hv_72]
                   (repeat (first | rw [up_at _ _ (by omega)] | rw [up_ne _ _ (by omega)]))
                   omega)
                | fail "q9"
            refine x_top yv_72 ?_
            refine lv_iload hx hb dL_isRestacked_102 (lv_at hl 1 rfl) ?_
            refine x_iast hx hb hK hP hD hS 5 0 rfl rfl (by omega) (by omega) (Nat.le_of_ble_eq_true rfl) dL_isRestacked_104 (fun H locs hP hD hS => ?_)
            have hP : va_P (gD g) vwCl [(aR, .inr (11, [.ref aG, .ref aP, .ref aH, .ref aY, .ref aT, .ref aS, .ref aF, .ref aX, .int (iI pr), .int (iI tk), .int (iI tol), .int (iI hou)])), (aY, .inr (10, [.ref aYh, .ref aYt, .ref aYc])), (aYh, .inl (gI g, 3, .inl (ar ht))), (aYt, .inl (gI g, 36, .inl (ar yt))), (aYc, .inl (gI g, 36, .inl (ar yc))), (aN, .inl (gI g, 1960, .inl (ar (up (up (up F (10 + sta) v_69) (10 + stb) v_71) (1818 + 24 * stb + 2 * (h3 + 1)) v_64))))] H := hP
            have hD : va_D A [(aR, .inr (11, [.ref aG, .ref aP, .ref aH, .ref aY, .ref aT, .ref aS, .ref aF, .ref aX, .int (iI pr), .int (iI tk), .int (iI tol), .int (iI hou)])), (aY, .inr (10, [.ref aYh, .ref aYt, .ref aYc])), (aYh, .inl (gI g, 3, .inl (ar ht))), (aYt, .inl (gI g, 36, .inl (ar yt))), (aYc, .inl (gI g, 36, .inl (ar yc))), (aN, .inl (gI g, 1960, .inl (ar (up (up (up F (10 + sta) v_69) (10 + stb) v_71) (1818 + 24 * stb + 2 * (h3 + 1)) v_64))))] := hD
            refine lv_aload_n hx hb dL_isRestacked_105 rfl (lv_at hl 3 rfl) ?_
            refine lv_aload_n hx hb dL_isRestacked_106 rfl (lv_at hl 3 rfl) ?_
            refine lv_iload_n hx hb dL_isRestacked_107 rfl (lv_at hl 5 rfl) ?_
            refine x_calli (S := Unit) (wc := [(aN, .inl (gI g, 1960, .inl (ar (up (up (up F (10 + sta) v_69) (10 + stb) v_71) (1818 + 24 * stb + 2 * (h3 + 1)) v_64))))]) (wr := [(aR, .inr (11, [.ref aG, .ref aP, .ref aH, .ref aY, .ref aT, .ref aS, .ref aF, .ref aX, .int (iI pr), .int (iI tk), .int (iI tol), .int (iI hou)])), (aY, .inr (10, [.ref aYh, .ref aYt, .ref aYc])), (aYh, .inl (gI g, 3, .inl (ar ht))), (aYt, .inl (gI g, 36, .inl (ar yt))), (aYc, .inl (gI g, 36, .inl (ar yc)))]) hC hP hD hS hA [5] [0, 1, 2, 3, 4] [0, 1, 2, 3, 4, 5] rfl rfl (fun hpre => va_runS (As := [.ref aN, .int (iI stb)]) (rest := [.ref aN]) ⟨hx, hb, hml, hown, hts⟩ (c_L_topOf l g H.size aN stb (up (up (up F (10 + sta) v_69) (10 + stb) v_71) (1818 + 24 * stb + 2 * (h3 + 1)) v_64) (by first | (first | assumption | omega | exact bnd_up (by assumption) (by omega) (by omega)) | fail "q8")) (va_cwS 2 hts gL_isRestacked_L_topOf rfl rfl rfl (by decide +kernel) ⟨Nat.le_of_ble_eq_true rfl, Nat.le_of_ble_eq_true rfl⟩) ⟨xB_blind, hpre _⟩ rfl rfl hl.1 rfl (lv_room (Nat.le_of_ble_eq_true rfl)) dL_isRestacked_108 ⟨Nat.le_of_ble_eq_true rfl, Nat.le_of_ble_eq_true rfl⟩) (fun (u : Unit) => [(aR, .inr (11, [.ref aG, .ref aP, .ref aH, .ref aY, .ref aT, .ref aS, .ref aF, .ref aX, .int (iI pr), .int (iI tk), .int (iI tol), .int (iI hou)])), (aY, .inr (10, [.ref aYh, .ref aYt, .ref aYc])), (aYh, .inl (gI g, 3, .inl (ar ht))), (aYt, .inl (gI g, 36, .inl (ar yt))), (aYc, .inl (gI g, 36, .inl (ar yc))), (aN, .inl (gI g, 1960, .inl (ar (up (up (up F (10 + sta) v_69) (10 + stb) v_71) (1818 + 24 * stb + 2 * (h3 + 1)) v_64))))]) rfl rfl (by decide) (fun _ => rfl) rfl (fun u v_73 H locs hv_73 pv_73 hP hD hS => ?_)
            have hP : va_P (gD g) vwCl [(aR, .inr (11, [.ref aG, .ref aP, .ref aH, .ref aY, .ref aT, .ref aS, .ref aF, .ref aX, .int (iI pr), .int (iI tk), .int (iI tol), .int (iI hou)])), (aY, .inr (10, [.ref aYh, .ref aYt, .ref aYc])), (aYh, .inl (gI g, 3, .inl (ar ht))), (aYt, .inl (gI g, 36, .inl (ar yt))), (aYc, .inl (gI g, 36, .inl (ar yc))), (aN, .inl (gI g, 1960, .inl (ar (up (up (up F (10 + sta) v_69) (10 + stb) v_71) (1818 + 24 * stb + 2 * (h3 + 1)) v_64))))] H := hP
            have hD : va_D A [(aR, .inr (11, [.ref aG, .ref aP, .ref aH, .ref aY, .ref aT, .ref aS, .ref aF, .ref aX, .int (iI pr), .int (iI tk), .int (iI tol), .int (iI hou)])), (aY, .inr (10, [.ref aYh, .ref aYt, .ref aYc])), (aYh, .inl (gI g, 3, .inl (ar ht))), (aYt, .inl (gI g, 36, .inl (ar yt))), (aYc, .inl (gI g, 36, .inl (ar yc))), (aN, .inl (gI g, 1960, .inl (ar (up (up (up F (10 + sta) v_69) (10 + stb) v_71) (1818 + 24 * stb + 2 * (h3 + 1)) v_64))))] := hD
            have hv_73 : v_73 = 1818 + 24 * stb + 2 * (up (up (up F (10 + sta) v_69) (10 + stb) v_71) (1818 + 24 * stb + 2 * (h3 + 1)) v_64) (10 + stb) := hv_73
            have yv_73 : v_73 = 1818 + 24 * stb + 2 * (h3 + 1) := by
                first
                | (
                   rw [hv_73]
                   (repeat (first | rw [up_at _ _ (by omega)] | rw [up_ne _ _ (by omega)]))
                   omega)
                | fail "q9"
            refine x_top yv_73 ?_
            refine x_iconst hx hb dL_isRestacked_111 ?_
            refine x_iadd hx hb dL_isRestacked_112 ?_
            refine lv_iload hx hb dL_isRestacked_113 (lv_at hl 0 rfl) ?_
            refine x_iast hx hb hK hP hD hS 5 0 rfl rfl (by omega) (by omega) (Nat.le_of_ble_eq_true rfl) dL_isRestacked_115 (fun H locs hP hD hS => ?_)
            have hP : va_P (gD g) vwCl [(aR, .inr (11, [.ref aG, .ref aP, .ref aH, .ref aY, .ref aT, .ref aS, .ref aF, .ref aX, .int (iI pr), .int (iI tk), .int (iI tol), .int (iI hou)])), (aY, .inr (10, [.ref aYh, .ref aYt, .ref aYc])), (aYh, .inl (gI g, 3, .inl (ar ht))), (aYt, .inl (gI g, 36, .inl (ar yt))), (aYc, .inl (gI g, 36, .inl (ar yc))), (aN, .inl (gI g, 1960, .inl (ar (up (up (up (up F (10 + sta) v_69) (10 + stb) v_71) (1818 + 24 * stb + 2 * (h3 + 1)) v_64) ((1818 + 24 * stb + 2 * (h3 + 1)) + 1) v_67))))] H := hP
            have hD : va_D A [(aR, .inr (11, [.ref aG, .ref aP, .ref aH, .ref aY, .ref aT, .ref aS, .ref aF, .ref aX, .int (iI pr), .int (iI tk), .int (iI tol), .int (iI hou)])), (aY, .inr (10, [.ref aYh, .ref aYt, .ref aYc])), (aYh, .inl (gI g, 3, .inl (ar ht))), (aYt, .inl (gI g, 36, .inl (ar yt))), (aYc, .inl (gI g, 36, .inl (ar yc))), (aN, .inl (gI g, 1960, .inl (ar (up (up (up (up F (10 + sta) v_69) (10 + stb) v_71) (1818 + 24 * stb + 2 * (h3 + 1)) v_64) ((1818 + 24 * stb + 2 * (h3 + 1)) + 1) v_67))))] := hD
            refine lv_aload_n hx hb dL_isRestacked_116 rfl (lv_at hl 2 rfl) ?_
            refine lv_iload_n hx hb dL_isRestacked_117 rfl (lv_at hl 4 rfl) ?_
            refine lv_iload_n hx hb dL_isRestacked_118 rfl (lv_at hl 5 rfl) ?_
            refine x_calli (S := Unit) (wc := [(aR, .inr (11, [.ref aG, .ref aP, .ref aH, .ref aY, .ref aT, .ref aS, .ref aF, .ref aX, .int (iI pr), .int (iI tk), .int (iI tol), .int (iI hou)])), (aY, .inr (10, [.ref aYh, .ref aYt, .ref aYc])), (aYh, .inl (gI g, 3, .inl (ar ht))), (aYt, .inl (gI g, 36, .inl (ar yt))), (aYc, .inl (gI g, 36, .inl (ar yc)))]) (wr := [(aN, .inl (gI g, 1960, .inl (ar (up (up (up (up F (10 + sta) v_69) (10 + stb) v_71) (1818 + 24 * stb + 2 * (h3 + 1)) v_64) ((1818 + 24 * stb + 2 * (h3 + 1)) + 1) v_67))))]) hC hP hD hS hA [0, 1, 2, 3, 4] [5] [1, 2, 3, 4, 5, 0] rfl rfl (fun hpre => vx_runSW (As := [.ref aR, .int (iI sta), .int (iI stb)]) (rest := []) ⟨hx, hb, hml, hown, hts⟩ (c_L_restack l hflags g H.size aR aG aP aH aY aT aS aF aX aYh aYt aYc pr tk tol hou sta stb ht yt yc (by first | (first | assumption | omega | exact bnd_up (by assumption) (by omega) (by omega)) | fail "q8") (by first | (first | assumption | omega | exact bnd_up (by assumption) (by omega) (by omega)) | fail "q8") (by first | (first | assumption | omega | exact bnd_up (by assumption) (by omega) (by omega)) | fail "q8")) (vx_cwSW 3 hts gL_isRestacked_L_restack rfl rfl rfl (by decide +kernel) ⟨Nat.le_of_ble_eq_true rfl, Nat.le_of_ble_eq_true rfl⟩) ⟨xB_blind, hpre _⟩ rfl rfl hl.1 rfl (lv_room (Nat.le_of_ble_eq_true rfl)) dL_isRestacked_119 ⟨Nat.le_of_ble_eq_true rfl, Nat.le_of_ble_eq_true rfl⟩) (fun (u : Unit) => [(aR, .inr (11, [.ref aG, .ref aP, .ref aH, .ref aY, .ref aT, .ref aS, .ref aF, .ref aX, .int (iI pr), .int (iI tk), .int (iI tol), .int (iI hou)])), (aY, .inr (10, [.ref aYh, .ref aYt, .ref aYc])), (aYh, .inl (gI g, 3, .inl (ar (if reT ht sta stb = 0 then (rsH ht sta stb) else ht)))), (aYt, .inl (gI g, 36, .inl (ar (if reT ht sta stb = 0 then (rsF ht yt sta stb) else yt)))), (aYc, .inl (gI g, 36, .inl (ar (if reT ht sta stb = 0 then (rsF ht yc sta stb) else yc)))), (aN, .inl (gI g, 1960, .inl (ar (up (up (up (up F (10 + sta) v_69) (10 + stb) v_71) (1818 + 24 * stb + 2 * (h3 + 1)) v_64) ((1818 + 24 * stb + 2 * (h3 + 1)) + 1) v_67))))]) rfl rfl (by decide) (fun _ => rfl) rfl (fun u v_74 H locs hv_74 pv_74 hP hD hS => ?_)
            have hP : va_P (gD g) vwCl [(aR, .inr (11, [.ref aG, .ref aP, .ref aH, .ref aY, .ref aT, .ref aS, .ref aF, .ref aX, .int (iI pr), .int (iI tk), .int (iI tol), .int (iI hou)])), (aY, .inr (10, [.ref aYh, .ref aYt, .ref aYc])), (aYh, .inl (gI g, 3, .inl (ar (if reT ht sta stb = 0 then (rsH ht sta stb) else ht)))), (aYt, .inl (gI g, 36, .inl (ar (if reT ht sta stb = 0 then (rsF ht yt sta stb) else yt)))), (aYc, .inl (gI g, 36, .inl (ar (if reT ht sta stb = 0 then (rsF ht yc sta stb) else yc)))), (aN, .inl (gI g, 1960, .inl (ar (up (up (up (up F (10 + sta) v_69) (10 + stb) v_71) (1818 + 24 * stb + 2 * (h3 + 1)) v_64) ((1818 + 24 * stb + 2 * (h3 + 1)) + 1) v_67))))] H := hP
            have hD : va_D A [(aR, .inr (11, [.ref aG, .ref aP, .ref aH, .ref aY, .ref aT, .ref aS, .ref aF, .ref aX, .int (iI pr), .int (iI tk), .int (iI tol), .int (iI hou)])), (aY, .inr (10, [.ref aYh, .ref aYt, .ref aYc])), (aYh, .inl (gI g, 3, .inl (ar (if reT ht sta stb = 0 then (rsH ht sta stb) else ht)))), (aYt, .inl (gI g, 36, .inl (ar (if reT ht sta stb = 0 then (rsF ht yt sta stb) else yt)))), (aYc, .inl (gI g, 36, .inl (ar (if reT ht sta stb = 0 then (rsF ht yc sta stb) else yc)))), (aN, .inl (gI g, 1960, .inl (ar (up (up (up (up F (10 + sta) v_69) (10 + stb) v_71) (1818 + 24 * stb + 2 * (h3 + 1)) v_64) ((1818 + 24 * stb + 2 * (h3 + 1)) + 1) v_67))))] := hD
            have hv_74 : v_74 = (if reT ht sta stb = 0 then rsH ht sta stb stb else -900000 - reT ht sta stb) := hv_74
            refine lv_aload_n hx hb dL_isRestacked_122 rfl (lv_at hl 3 rfl) ?_
            refine x_bipush hx hb dL_isRestacked_123 (by decide) ?_
            refine lv_iload_n hx hb dL_isRestacked_125 rfl (lv_at hl 5 rfl) ?_
            refine x_iadd hx hb dL_isRestacked_126 ?_
            refine x_iald hx hb hK hP 5 0 rfl rfl (by omega) (by omega) (Nat.le_of_ble_eq_true rfl) dL_isRestacked_127 (fun v_75 hv_75 => ?_)
            (repeat (first | rw [up_at _ _ (by omega)] at hv_75 | rw [up_ne _ _ (by omega)] at hv_75))
            refine x_top (show v_75 = h3 + 1 by
                first
                | (
                   omega)
                | fail "q9") ?_
            refine x_cmp_ne (tgt := 135) hx hb (by omega) (by omega) dL_isRestacked_128 (by decide) (fun c_76 => ?_) (fun c_76 => ?_)
            · skip
              exfalso
              first
              | (
                 omega)
              | fail "q9"
            · skip
              refine x_iconst hx hb dL_isRestacked_131 ?_
              refine lv_goto (tgt := 136) hx hb dL_isRestacked_132 (by decide) ?_
              have q_77 : (up (up (up (up F (10 + sta) v_69) (10 + stb) v_71) (1818 + 24 * stb + 2 * (h3 + 1)) v_64) ((1818 + 24 * stb + 2 * (h3 + 1)) + 1) v_67) = (up (up (up (up F (10 + sta) v_69) (10 + stb) v_71) (1818 + 24 * stb + 2 * (h3 + 1)) v_64) ((1818 + 24 * stb + 2 * (h3 + 1)) + 1) v_67) := by
                first
                | (
                   first | rfl | omega | (subst_vars; first | rfl | omega))
                | fail "q9"
              have hw_78 := (congrArg (fun (z0 : Int → Int) => ([(aR, .inr (11, [.ref aG, .ref aP, .ref aH, .ref aY, .ref aT, .ref aS, .ref aF, .ref aX, .int (iI pr), .int (iI tk), .int (iI tol), .int (iI hou)])), (aY, .inr (10, [.ref aYh, .ref aYt, .ref aYc])), (aYh, .inl (gI g, 3, .inl (ar (if reT ht sta stb = 0 then (rsH ht sta stb) else ht)))), (aYt, .inl (gI g, 36, .inl (ar (if reT ht sta stb = 0 then (rsF ht yt sta stb) else yt)))), (aYc, .inl (gI g, 36, .inl (ar (if reT ht sta stb = 0 then (rsF ht yc sta stb) else yc)))), (aN, .inl (gI g, 1960, .inl (ar z0)))] : va_W)) q_77.symm)
              rw [hQ9]
              exact x_iret hx hb hr hlocks hP hD hS (S := (Int → Int)) (by decide) dL_isRestacked_136 (up (up (up (up F (10 + sta) v_69) (10 + stb) v_71) (1818 + 24 * stb + 2 * (h3 + 1)) v_64) ((1818 + 24 * stb + 2 * (h3 + 1)) + 1) v_67) (by
                  first
                  | (
                     exact (bI_t True.intro).symm)
                  | fail "q9") (by
                  first
                  | (
                     first | (rw [if_pos hT]; rw [← hh3e]; intro j hj; simp only [rkF]; by_cases qa : j = 10 + stb; ((repeat (first | rw [up_at _ _ (by omega)] | rw [up_ne _ _ (by omega)] | rw [if_pos (by omega)] | rw [if_neg (by omega)])); try omega); by_cases qb : j = 10 + sta; ((repeat (first | rw [up_at _ _ (by omega)] | rw [up_ne _ _ (by omega)] | rw [if_pos (by omega)] | rw [if_neg (by omega)])); try omega); by_cases qc : j = 1820 + 24 * stb + 2 * h3; ((repeat (first | rw [up_at _ _ (by omega)] | rw [up_ne _ _ (by omega)] | rw [if_pos (by omega)] | rw [if_neg (by omega)])); try omega); by_cases qd : j = 1821 + 24 * stb + 2 * h3; ((repeat (first | rw [up_at _ _ (by omega)] | rw [up_ne _ _ (by omega)] | rw [if_pos (by omega)] | rw [if_neg (by omega)])); try omega); ((repeat (first | rw [up_at _ _ (by omega)] | rw [up_ne _ _ (by omega)] | rw [if_pos (by omega)] | rw [if_neg (by omega)])); try omega)) | (rw [if_neg (by omega)]; exact agr_r _))
                  | fail "q9") hw_78 (Nat.le_of_ble_eq_true rfl) (Nat.le_of_ble_eq_true rfl)
        · skip
          refine lv_aload_n hx hb dL_isRestacked_25 rfl (lv_at hl 0 rfl) ?_
          refine lv_iload_n hx hb dL_isRestacked_26 rfl (lv_at hl 2 rfl) ?_
          refine lv_iload_n hx hb dL_isRestacked_27 rfl (lv_at hl 3 rfl) ?_
          refine x_calli (S := Unit) (wc := [(aR, .inr (11, [.ref aG, .ref aP, .ref aH, .ref aY, .ref aT, .ref aS, .ref aF, .ref aX, .int (iI pr), .int (iI tk), .int (iI tol), .int (iI hou)])), (aY, .inr (10, [.ref aYh, .ref aYt, .ref aYc])), (aYh, .inl (gI g, 3, .inl (ar ht))), (aYt, .inl (gI g, 36, .inl (ar yt))), (aYc, .inl (gI g, 36, .inl (ar yc)))]) (wr := [(aN, .inl (gI g, 1960, .inl (ar F)))]) hC hP hD hS hA [0, 1, 2, 3, 4] [5] [1, 2, 3, 4, 5, 0] rfl rfl (fun hpre => vx_runSW (As := [.ref aR, .int (iI sta), .int (iI stb)]) (rest := []) ⟨hx, hb, hml, hown, hts⟩ (c_L_restack l hflags g H.size aR aG aP aH aY aT aS aF aX aYh aYt aYc pr tk tol hou sta stb ht yt yc (by first | (first | assumption | omega | exact bnd_up (by assumption) (by omega) (by omega)) | fail "q8") (by first | (first | assumption | omega | exact bnd_up (by assumption) (by omega) (by omega)) | fail "q8") (by first | (first | assumption | omega | exact bnd_up (by assumption) (by omega) (by omega)) | fail "q8")) (vx_cwSW 3 hts gL_isRestacked_L_restack rfl rfl rfl (by decide +kernel) ⟨Nat.le_of_ble_eq_true rfl, Nat.le_of_ble_eq_true rfl⟩) ⟨xB_blind, hpre _⟩ rfl rfl hl.1 rfl (lv_room (Nat.le_of_ble_eq_true rfl)) dL_isRestacked_28 ⟨Nat.le_of_ble_eq_true rfl, Nat.le_of_ble_eq_true rfl⟩) (fun (u : Unit) => [(aR, .inr (11, [.ref aG, .ref aP, .ref aH, .ref aY, .ref aT, .ref aS, .ref aF, .ref aX, .int (iI pr), .int (iI tk), .int (iI tol), .int (iI hou)])), (aY, .inr (10, [.ref aYh, .ref aYt, .ref aYc])), (aYh, .inl (gI g, 3, .inl (ar (if reT ht sta stb = 0 then (rsH ht sta stb) else ht)))), (aYt, .inl (gI g, 36, .inl (ar (if reT ht sta stb = 0 then (rsF ht yt sta stb) else yt)))), (aYc, .inl (gI g, 36, .inl (ar (if reT ht sta stb = 0 then (rsF ht yc sta stb) else yc)))), (aN, .inl (gI g, 1960, .inl (ar F)))]) rfl rfl (by decide) (fun _ => rfl) rfl (fun u v_79 H locs hv_79 pv_79 hP hD hS => ?_)
          have hP : va_P (gD g) vwCl [(aR, .inr (11, [.ref aG, .ref aP, .ref aH, .ref aY, .ref aT, .ref aS, .ref aF, .ref aX, .int (iI pr), .int (iI tk), .int (iI tol), .int (iI hou)])), (aY, .inr (10, [.ref aYh, .ref aYt, .ref aYc])), (aYh, .inl (gI g, 3, .inl (ar (if reT ht sta stb = 0 then (rsH ht sta stb) else ht)))), (aYt, .inl (gI g, 36, .inl (ar (if reT ht sta stb = 0 then (rsF ht yt sta stb) else yt)))), (aYc, .inl (gI g, 36, .inl (ar (if reT ht sta stb = 0 then (rsF ht yc sta stb) else yc)))), (aN, .inl (gI g, 1960, .inl (ar F)))] H := hP
          have hD : va_D A [(aR, .inr (11, [.ref aG, .ref aP, .ref aH, .ref aY, .ref aT, .ref aS, .ref aF, .ref aX, .int (iI pr), .int (iI tk), .int (iI tol), .int (iI hou)])), (aY, .inr (10, [.ref aYh, .ref aYt, .ref aYc])), (aYh, .inl (gI g, 3, .inl (ar (if reT ht sta stb = 0 then (rsH ht sta stb) else ht)))), (aYt, .inl (gI g, 36, .inl (ar (if reT ht sta stb = 0 then (rsF ht yt sta stb) else yt)))), (aYc, .inl (gI g, 36, .inl (ar (if reT ht sta stb = 0 then (rsF ht yc sta stb) else yc)))), (aN, .inl (gI g, 1960, .inl (ar F)))] := hD
          have hv_79 : v_79 = (if reT ht sta stb = 0 then rsH ht sta stb stb else -900000 - reT ht sta stb) := hv_79
          have hT : reT ht sta stb = (if ht sta = 0 then 2 else 3) := by unfold reT; omega
          refine lv_aload_n hx hb dL_isRestacked_31 rfl (lv_at hl 1 rfl) ?_
          refine x_bipush hx hb dL_isRestacked_32 (by decide) ?_
          refine lv_iload_n hx hb dL_isRestacked_34 rfl (lv_at hl 2 rfl) ?_
          refine x_iadd hx hb dL_isRestacked_35 ?_
          refine x_iald hx hb hK hP 5 0 rfl rfl (by omega) (by omega) (Nat.le_of_ble_eq_true rfl) dL_isRestacked_36 (fun v_80 hv_80 => ?_)
          refine x_top (show v_80 = ht sta by
              first
              | (
                 omega)
              | fail "q9") ?_
          refine x_if_ne (tgt := 45) hx hb (by omega) dL_isRestacked_37 (by decide) (fun c_81 => ?_) (fun c_81 => ?_)
          · skip
            refine x_ldc (v := -900003) hx hb hown (hts (.constant RL 30 (-900003)) (List.mem_of_getElem? (i := 2) rfl)) (by decide) dL_isRestacked_45 ?_
            refine x_cmp_ne (tgt := 54) hx hb (by omega) (by omega) dL_isRestacked_47 (by decide) (fun c_82 => ?_) (fun c_82 => ?_)
            · skip
              exfalso
              first
              | (
                 omega)
              | fail "q9"
            · skip
              refine x_iconst hx hb dL_isRestacked_50 ?_
              refine lv_goto (tgt := 55) hx hb dL_isRestacked_51 (by decide) ?_
              rw [hQ9]
              exact x_iret hx hb hr hlocks hP hD hS (S := (Int → Int)) (by decide) dL_isRestacked_55 F (by
                  first
                  | (
                     exact (bI_t True.intro).symm)
                  | fail "q9") (by
                  first
                  | (
                     first | (rw [if_pos hT]; rw [← hh3e]; intro j hj; simp only [rkF]; by_cases qa : j = 10 + stb; ((repeat (first | rw [up_at _ _ (by omega)] | rw [up_ne _ _ (by omega)] | rw [if_pos (by omega)] | rw [if_neg (by omega)])); try omega); by_cases qb : j = 10 + sta; ((repeat (first | rw [up_at _ _ (by omega)] | rw [up_ne _ _ (by omega)] | rw [if_pos (by omega)] | rw [if_neg (by omega)])); try omega); by_cases qc : j = 1820 + 24 * stb + 2 * h3; ((repeat (first | rw [up_at _ _ (by omega)] | rw [up_ne _ _ (by omega)] | rw [if_pos (by omega)] | rw [if_neg (by omega)])); try omega); by_cases qd : j = 1821 + 24 * stb + 2 * h3; ((repeat (first | rw [up_at _ _ (by omega)] | rw [up_ne _ _ (by omega)] | rw [if_pos (by omega)] | rw [if_neg (by omega)])); try omega); ((repeat (first | rw [up_at _ _ (by omega)] | rw [up_ne _ _ (by omega)] | rw [if_pos (by omega)] | rw [if_neg (by omega)])); try omega)) | (rw [if_neg (by omega)]; exact agr_r _))
                  | fail "q9") rfl (Nat.le_of_ble_eq_true rfl) (Nat.le_of_ble_eq_true rfl)
          · skip
            refine x_ldc (v := -900002) hx hb hown (hts (.constant RL 20 (-900002)) (List.mem_of_getElem? (i := 1) rfl)) (by decide) dL_isRestacked_40 ?_
            refine lv_goto (tgt := 47) hx hb dL_isRestacked_42 (by decide) ?_
            refine x_cmp_ne (tgt := 54) hx hb (by omega) (by omega) dL_isRestacked_47 (by decide) (fun c_83 => ?_) (fun c_83 => ?_)
            · skip
              exfalso
              first
              | (
                 omega)
              | fail "q9"
            · skip
              refine x_iconst hx hb dL_isRestacked_50 ?_
              refine lv_goto (tgt := 55) hx hb dL_isRestacked_51 (by decide) ?_
              rw [hQ9]
              exact x_iret hx hb hr hlocks hP hD hS (S := (Int → Int)) (by decide) dL_isRestacked_55 F (by
                  first
                  | (
                     exact (bI_t True.intro).symm)
                  | fail "q9") (by
                  first
                  | (
                     first | (rw [if_pos hT]; rw [← hh3e]; intro j hj; simp only [rkF]; by_cases qa : j = 10 + stb; ((repeat (first | rw [up_at _ _ (by omega)] | rw [up_ne _ _ (by omega)] | rw [if_pos (by omega)] | rw [if_neg (by omega)])); try omega); by_cases qb : j = 10 + sta; ((repeat (first | rw [up_at _ _ (by omega)] | rw [up_ne _ _ (by omega)] | rw [if_pos (by omega)] | rw [if_neg (by omega)])); try omega); by_cases qc : j = 1820 + 24 * stb + 2 * h3; ((repeat (first | rw [up_at _ _ (by omega)] | rw [up_ne _ _ (by omega)] | rw [if_pos (by omega)] | rw [if_neg (by omega)])); try omega); by_cases qd : j = 1821 + 24 * stb + 2 * h3; ((repeat (first | rw [up_at _ _ (by omega)] | rw [up_ne _ _ (by omega)] | rw [if_pos (by omega)] | rw [if_neg (by omega)])); try omega); ((repeat (first | rw [up_at _ _ (by omega)] | rw [up_ne _ _ (by omega)] | rw [if_pos (by omega)] | rw [if_neg (by omega)])); try omega)) | (rw [if_neg (by omega)]; exact agr_r _))
                  | fail "q9") rfl (Nat.le_of_ble_eq_true rfl) (Nat.le_of_ble_eq_true rfl)
  rw [hH, hlo, hQ9] at goal_
  exact goal_

set_option maxHeartbeats 4000000 in
set_option maxRecDepth 100000 in
theorem c_L_isStopped (l : Launch) (hflags : l.stackTraces = false) (g : xg) (sz : Nat) (aR aG aP aH aY aT aS aF aX aGn aGw aGs aTp aTt aTx aTy aE aN : Nat) (pr tk tol hou kn ld hrs : Int) (nd wk sk F : Int → Int) (hkn : 0 ≤ kn ∧ kn ≤ 200) (hld : 0 ≤ ld ∧ ld ≤ 200) (hldk : ld ≤ kn) (hhou : 0 ≤ hou ∧ hou ≤ 5000) (hpr : 0 ≤ pr ∧ pr ≤ 100) (hb_nd : bnd nd 0 100) (hb_wk : bnd wk 0 20) (hhrs : 1 ≤ hrs ∧ hrs ≤ 100) (n0 : F 0 = kn) (n2 : F 2 = ld) (n4 : F 4 = hou) (n5 : F 5 = pr) (n20 : ld < kn → F (20 + ld) = nd ld) (n220 : ld < kn → F (220 + ld) = wk ld) : Met l yL_isStopped wsL_isStopped { frames := 9, cells := 2, slots := 12, locals := 157 } (va_Pc [.ref aR, .ref aN, .int (iI hrs)] (xB g [(aR, .inr (11, [.ref aG, .ref aP, .ref aH, .ref aY, .ref aT, .ref aS, .ref aF, .ref aX, .int (iI pr), .int (iI tk), .int (iI tol), .int (iI hou)])), (aG, .inr (4, [.ref aGn, .ref aGw, .ref aGs, .int (iI kn)])), (aGn, .inl (gI g, 200, .inl (ar nd))), (aGw, .inl (gI g, 200, .inl (ar wk))), (aGs, .inl (gI g, 200, .inl (ar sk))), (aT, .inr (9, [.ref aTp, .ref aTt, .ref aTx, .ref aTy, .ref aE, .int (iI ld)])), (aN, .inl (gI g, 1960, .inl (ar F)))] sz)) (va_Qi (fun r u => r = iI ((fun (u : (Int → Int)) => bI (True)) u) ∧ (fun (u : (Int → Int)) => agr u (if soT hou hrs = 0 then up F 4 (hou + hrs) else F)) u) (fun u t => xE g (va_A [(aR, .inr (11, [.ref aG, .ref aP, .ref aH, .ref aY, .ref aT, .ref aS, .ref aF, .ref aX, .int (iI pr), .int (iI tk), .int (iI tol), .int (iI hou)])), (aG, .inr (4, [.ref aGn, .ref aGw, .ref aGs, .int (iI kn)])), (aGn, .inl (gI g, 200, .inl (ar nd))), (aGw, .inl (gI g, 200, .inl (ar wk))), (aGs, .inl (gI g, 200, .inl (ar sk))), (aT, .inr (9, [.ref aTp, .ref aTt, .ref aTx, .ref aTy, .ref aE, .int (iI ld)])), (aN, .inl (gI g, 1960, .inl (ar F)))] sz) ((fun (u : (Int → Int)) => [(aR, .inr (11, [.ref aG, .ref aP, .ref aH, .ref aY, .ref aT, .ref aS, .ref aF, .ref aX, .int (iI pr), .int (iI tk), .int (iI tol), .int (iI (if soT hou hrs = 0 then (hou + hrs) else hou))])), (aG, .inr (4, [.ref aGn, .ref aGw, .ref aGs, .int (iI kn)])), (aGn, .inl (gI g, 200, .inl (ar nd))), (aGw, .inl (gI g, 200, .inl (ar wk))), (aGs, .inl (gI g, 200, .inl (ar (if soT hou hrs = 0 then (sinkF kn sk ld (hrs * (mx 0 (gt0 kn nd ld - pr) * gt0 kn wk ld / 50))) else sk)))), (aT, .inr (9, [.ref aTp, .ref aTt, .ref aTx, .ref aTy, .ref aE, .int (iI ld)])), (aN, .inl (gI g, 1960, .inl (ar u)))]) u) t) (va_A [(aR, .inr (11, [.ref aG, .ref aP, .ref aH, .ref aY, .ref aT, .ref aS, .ref aF, .ref aX, .int (iI pr), .int (iI tk), .int (iI tol), .int (iI hou)])), (aG, .inr (4, [.ref aGn, .ref aGw, .ref aGs, .int (iI kn)])), (aGn, .inl (gI g, 200, .inl (ar nd))), (aGw, .inl (gI g, 200, .inl (ar wk))), (aGs, .inl (gI g, 200, .inl (ar sk))), (aT, .inr (9, [.ref aTp, .ref aTt, .ref aTx, .ref aTy, .ref aE, .int (iI ld)])), (aN, .inl (gI g, 1960, .inl (ar F)))] sz)) 2 12 (va_A [(aR, .inr (11, [.ref aG, .ref aP, .ref aH, .ref aY, .ref aT, .ref aS, .ref aF, .ref aX, .int (iI pr), .int (iI tk), .int (iI tol), .int (iI hou)])), (aG, .inr (4, [.ref aGn, .ref aGw, .ref aGs, .int (iI kn)])), (aGn, .inl (gI g, 200, .inl (ar nd))), (aGw, .inl (gI g, 200, .inl (ar wk))), (aGs, .inl (gI g, 200, .inl (ar sk))), (aT, .inr (9, [.ref aTp, .ref aTt, .ref aTx, .ref aTy, .ref aE, .int (iI ld)])), (aN, .inl (gI g, 1960, .inl (ar F)))] sz) := by
  refine x_enter (y := yL_isStopped) (ws := wsL_isStopped) (g := g) (sz := sz) (av := [.ref aR, .ref aN, .int (iI hrs)]) (WS := [(aR, .inr (11, [.ref aG, .ref aP, .ref aH, .ref aY, .ref aT, .ref aS, .ref aF, .ref aX, .int (iI pr), .int (iI tk), .int (iI tol), .int (iI hou)])), (aG, .inr (4, [.ref aGn, .ref aGw, .ref aGs, .int (iI kn)])), (aGn, .inl (gI g, 200, .inl (ar nd))), (aGw, .inl (gI g, 200, .inl (ar wk))), (aGs, .inl (gI g, 200, .inl (ar sk))), (aT, .inr (9, [.ref aTp, .ref aTt, .ref aTx, .ref aTy, .ref aE, .int (iI ld)])), (aN, .inl (gI g, 1960, .inl (ar F)))]) (cc := cL_isStopped) (maxL := 5) (ret := some .boolean) (Qc := (fun A => (va_Qi (fun r u => r = iI ((fun (u : (Int → Int)) => bI (True)) u) ∧ (fun (u : (Int → Int)) => agr u (if soT hou hrs = 0 then up F 4 (hou + hrs) else F)) u) (fun u t => xE g A ((fun (u : (Int → Int)) => [(aR, .inr (11, [.ref aG, .ref aP, .ref aH, .ref aY, .ref aT, .ref aS, .ref aF, .ref aX, .int (iI pr), .int (iI tk), .int (iI tol), .int (iI (if soT hou hrs = 0 then (hou + hrs) else hou))])), (aG, .inr (4, [.ref aGn, .ref aGw, .ref aGs, .int (iI kn)])), (aGn, .inl (gI g, 200, .inl (ar nd))), (aGw, .inl (gI g, 200, .inl (ar wk))), (aGs, .inl (gI g, 200, .inl (ar (if soT hou hrs = 0 then (sinkF kn sk ld (hrs * (mx 0 (gt0 kn nd ld - pr) * gt0 kn wk ld / 50))) else sk)))), (aT, .inr (9, [.ref aTp, .ref aTt, .ref aTx, .ref aTy, .ref aE, .int (iI ld)])), (aN, .inl (gI g, 1960, .inl (ar u)))]) u) t) A))) (by decide) rfl (Nat.le_of_ble_eq_true rfl) ?_
  intro p e s m args below meth c A ls hx hb hr hml hown hts hlocks hname hC hP hD hS hA hl
  have hK := hC.1
  have hown : s.vm.findClass RL = some m.cls := hown
  have hl : lv_has ls 5 [(0, .ref aR), (1, .ref aN), (2, .int (iI hrs))] := hl
  obtain ⟨H, hH⟩ : ∃ z, z = s.heap := ⟨_, rfl⟩
  obtain ⟨locs, hlo⟩ : ∃ z : List Loc, z = [] := ⟨_, rfl⟩
  obtain ⟨Q9, hQ9⟩ : ∃ z, z = MQ below (va_Qi (fun r u => r = iI ((fun (u : (Int → Int)) => bI (True)) u) ∧ (fun (u : (Int → Int)) => agr u (if soT hou hrs = 0 then up F 4 (hou + hrs) else F)) u) (fun u t => xE g A ((fun (u : (Int → Int)) => [(aR, .inr (11, [.ref aG, .ref aP, .ref aH, .ref aY, .ref aT, .ref aS, .ref aF, .ref aX, .int (iI pr), .int (iI tk), .int (iI tol), .int (iI (if soT hou hrs = 0 then (hou + hrs) else hou))])), (aG, .inr (4, [.ref aGn, .ref aGw, .ref aGs, .int (iI kn)])), (aGn, .inl (gI g, 200, .inl (ar nd))), (aGw, .inl (gI g, 200, .inl (ar wk))), (aGs, .inl (gI g, 200, .inl (ar (if soT hou hrs = 0 then (sinkF kn sk ld (hrs * (mx 0 (gt0 kn nd ld - pr) * gt0 kn wk ld / 50))) else sk)))), (aT, .inr (9, [.ref aTp, .ref aTt, .ref aTx, .ref aTy, .ref aE, .int (iI ld)])), (aN, .inl (gI g, 1960, .inl (ar u)))]) u) t) A) args s 2 12 A := ⟨_, rfl⟩
  have hP : va_P (gD g) vwCl [(aR, .inr (11, [.ref aG, .ref aP, .ref aH, .ref aY, .ref aT, .ref aS, .ref aF, .ref aX, .int (iI pr), .int (iI tk), .int (iI tol), .int (iI hou)])), (aG, .inr (4, [.ref aGn, .ref aGw, .ref aGs, .int (iI kn)])), (aGn, .inl (gI g, 200, .inl (ar nd))), (aGw, .inl (gI g, 200, .inl (ar wk))), (aGs, .inl (gI g, 200, .inl (ar sk))), (aT, .inr (9, [.ref aTp, .ref aTt, .ref aTx, .ref aTy, .ref aE, .int (iI ld)])), (aN, .inl (gI g, 1960, .inl (ar F)))] H := by rw [hH]; exact hP
  have hS : va_S A s.heap H locs := by rw [hH, hlo]; exact hS
  have goal_ : W p l e { frames := 9, cells := 2, slots := 12, locals := 157 } s m args below meth c H locs 0 0 Q9 (F0 m 0 ls []) := by
    clear hH hlo
    have hd := hb_nd ld
    have hw := hb_wk ld
    refine lv_aload_n hx hb dL_isStopped_0 rfl (lv_at hl 1 rfl) ?_
    refine x_iconst hx hb dL_isStopped_1 ?_
    refine x_iald hx hb hK hP 6 0 rfl rfl (by omega) (by omega) (Nat.le_of_ble_eq_true rfl) dL_isStopped_2 (fun v_1 hv_1 => ?_)
    refine x_top (show v_1 = hou by
        first
        | (
           omega)
        | fail "q9") ?_
    refine lv_iload_n hx hb dL_isStopped_3 rfl (lv_at hl 2 rfl) ?_
    refine x_iadd hx hb dL_isStopped_4 ?_
    refine x_sipush hx hb dL_isStopped_5 (by decide) ?_
    refine x_cmp_le (tgt := 27) hx hb (by omega) (by omega) dL_isStopped_8 (by decide) (fun c_2 => ?_) (fun c_2 => ?_)
    · skip
      refine lv_aload_n hx hb dL_isStopped_27 rfl (lv_at hl 1 rfl) ?_
      refine x_bipush hx hb dL_isStopped_28 (by decide) ?_
      refine lv_aload_n hx hb dL_isStopped_30 rfl (lv_at hl 1 rfl) ?_
      refine x_iconst hx hb dL_isStopped_31 ?_
      refine x_iald hx hb hK hP 6 0 rfl rfl (by omega) (by omega) (Nat.le_of_ble_eq_true rfl) dL_isStopped_32 (fun v_3 hv_3 => ?_)
      refine x_top (show v_3 = ld by
          first
          | (
             omega)
          | fail "q9") ?_
      refine x_iadd hx hb dL_isStopped_33 ?_
      refine x_iald hx hb hK hP 6 0 rfl rfl (by omega) (by omega) (Nat.le_of_ble_eq_true rfl) dL_isStopped_34 (fun v_4 hv_4 => ?_)
      refine lv_aload_n hx hb dL_isStopped_35 rfl (lv_at hl 1 rfl) ?_
      refine x_iconst hx hb dL_isStopped_36 ?_
      refine x_iald hx hb hK hP 6 0 rfl rfl (by omega) (by omega) (Nat.le_of_ble_eq_true rfl) dL_isStopped_37 (fun v_5 hv_5 => ?_)
      refine x_top (show v_5 = pr by
          first
          | (
             omega)
          | fail "q9") ?_
      refine x_isub hx hb dL_isStopped_38 ?_
      obtain ⟨v_6, ev_6⟩ : ∃ z : Int, z = v_4 - pr := ⟨_, rfl⟩
      refine x_top ev_6.symm ?_
      refine lv_istore_n (lv' := [(3, .int (iI v_6)), (0, .ref aR), (1, .ref aN), (2, .int (iI hrs))]) hx hb dL_isStopped_39 rfl hl (by decide) rfl (fun ls hl => ?_)
      refine x_iconst hx hb dL_isStopped_40 ?_
      refine lv_istore (lv' := [(4, .int (iI 0)), (3, .int (iI v_6)), (0, .ref aR), (1, .ref aN), (2, .int (iI hrs))]) hx hb dL_isStopped_41 hl (by decide) rfl (fun ls hl => ?_)
      have lp43 : ∀ (n : Nat) (zk : Int) (F1 : Int → Int), (0 ≤ zk ∧ zk ≤ hrs) → (agr F1 F) → hrs + 1 - zk ≤ (n : Int) → ∀ (H : Heap) (locs : List Loc), va_P (gD g) vwCl [(aR, .inr (11, [.ref aG, .ref aP, .ref aH, .ref aY, .ref aT, .ref aS, .ref aF, .ref aX, .int (iI pr), .int (iI tk), .int (iI tol), .int (iI hou)])), (aG, .inr (4, [.ref aGn, .ref aGw, .ref aGs, .int (iI kn)])), (aGn, .inl (gI g, 200, .inl (ar nd))), (aGw, .inl (gI g, 200, .inl (ar wk))), (aGs, .inl (gI g, 200, .inl (ar sk))), (aT, .inr (9, [.ref aTp, .ref aTt, .ref aTx, .ref aTy, .ref aE, .int (iI ld)])), (aN, .inl (gI g, 1960, .inl (ar F1)))] H → va_D A [(aR, .inr (11, [.ref aG, .ref aP, .ref aH, .ref aY, .ref aT, .ref aS, .ref aF, .ref aX, .int (iI pr), .int (iI tk), .int (iI tol), .int (iI hou)])), (aG, .inr (4, [.ref aGn, .ref aGw, .ref aGs, .int (iI kn)])), (aGn, .inl (gI g, 200, .inl (ar nd))), (aGw, .inl (gI g, 200, .inl (ar wk))), (aGs, .inl (gI g, 200, .inl (ar sk))), (aT, .inr (9, [.ref aTp, .ref aTt, .ref aTx, .ref aTy, .ref aE, .int (iI ld)])), (aN, .inl (gI g, 1960, .inl (ar F1)))] → va_S A s.heap H locs → ∀ (ls : Array Slot), lv_has ls 5 [(4, .int (iI zk)), (3, .int (iI v_6)), (0, .ref aR), (1, .ref aN), (2, .int (iI hrs))] → W p l e { frames := 9, cells := 2, slots := 12, locals := 157 } s m args below meth c H locs (0) (0) Q9 (F0 m 43 ls []) := by
        intro n
        induction n with
        | zero => intro zk F1 hzk hF1 hm; exfalso; omega
        | succ n ih43 =>
          intro zk F1 hzk hF1 hm H locs hP hD hS ls hl
          refine lv_iload hx hb dL_isStopped_43 (lv_at hl 0 rfl) ?_
          refine lv_iload_n hx hb dL_isStopped_45 rfl (lv_at hl 4 rfl) ?_
          refine x_cmp_ge (tgt := 94) hx hb (by omega) (by omega) dL_isStopped_46 (by decide) (fun c_7 => ?_) (fun c_7 => ?_)
          · skip
            have hT : soT hou hrs = 0 := by unfold soT; omega
            refine lv_aload_n hx hb dL_isStopped_94 rfl (lv_at hl 3 rfl) ?_
            refine x_iconst hx hb dL_isStopped_95 ?_
            refine lv_dup2_11 hx hb dL_isStopped_96 rfl rfl ?_
            refine x_iald hx hb hK hP 6 0 rfl rfl (by omega) (by omega) (Nat.le_of_ble_eq_true rfl) dL_isStopped_97 (fun v_8 hv_8 => ?_)
            refine x_top (show v_8 = hou by
                first
                | (
                   rw [hv_8, hF1 4 (by omega)]; exact n4)
                | fail "q9") ?_
            refine lv_iload_n hx hb dL_isStopped_98 rfl (lv_at hl 4 rfl) ?_
            refine x_iadd hx hb dL_isStopped_99 ?_
            obtain ⟨v_9, ev_9⟩ : ∃ z : Int, z = hou + hrs := ⟨_, rfl⟩
            refine x_top ev_9.symm ?_
            refine x_iast hx hb hK hP hD hS 6 0 rfl rfl (by omega) (by omega) (Nat.le_of_ble_eq_true rfl) dL_isStopped_100 (fun H locs hP hD hS => ?_)
            have hP : va_P (gD g) vwCl [(aR, .inr (11, [.ref aG, .ref aP, .ref aH, .ref aY, .ref aT, .ref aS, .ref aF, .ref aX, .int (iI pr), .int (iI tk), .int (iI tol), .int (iI hou)])), (aG, .inr (4, [.ref aGn, .ref aGw, .ref aGs, .int (iI kn)])), (aGn, .inl (gI g, 200, .inl (ar nd))), (aGw, .inl (gI g, 200, .inl (ar wk))), (aGs, .inl (gI g, 200, .inl (ar sk))), (aT, .inr (9, [.ref aTp, .ref aTt, .ref aTx, .ref aTy, .ref aE, .int (iI ld)])), (aN, .inl (gI g, 1960, .inl (ar (up F1 4 v_9))))] H := hP
            have hD : va_D A [(aR, .inr (11, [.ref aG, .ref aP, .ref aH, .ref aY, .ref aT, .ref aS, .ref aF, .ref aX, .int (iI pr), .int (iI tk), .int (iI tol), .int (iI hou)])), (aG, .inr (4, [.ref aGn, .ref aGw, .ref aGs, .int (iI kn)])), (aGn, .inl (gI g, 200, .inl (ar nd))), (aGw, .inl (gI g, 200, .inl (ar wk))), (aGs, .inl (gI g, 200, .inl (ar sk))), (aT, .inr (9, [.ref aTp, .ref aTt, .ref aTx, .ref aTy, .ref aE, .int (iI ld)])), (aN, .inl (gI g, 1960, .inl (ar (up F1 4 v_9))))] := hD
            refine lv_aload_n hx hb dL_isStopped_101 rfl (lv_at hl 2 rfl) ?_
            refine lv_iload_n hx hb dL_isStopped_102 rfl (lv_at hl 4 rfl) ?_
            refine x_calli (S := Unit) (wc := [(aR, .inr (11, [.ref aG, .ref aP, .ref aH, .ref aY, .ref aT, .ref aS, .ref aF, .ref aX, .int (iI pr), .int (iI tk), .int (iI tol), .int (iI hou)])), (aG, .inr (4, [.ref aGn, .ref aGw, .ref aGs, .int (iI kn)])), (aGn, .inl (gI g, 200, .inl (ar nd))), (aGw, .inl (gI g, 200, .inl (ar wk))), (aGs, .inl (gI g, 200, .inl (ar sk))), (aT, .inr (9, [.ref aTp, .ref aTt, .ref aTx, .ref aTy, .ref aE, .int (iI ld)]))]) (wr := [(aN, .inl (gI g, 1960, .inl (ar (up F1 4 v_9))))]) hC hP hD hS hA [0, 1, 2, 3, 4, 5] [6] [1, 2, 3, 4, 5, 6, 0] rfl rfl (fun hpre => vx_runSW (As := [.ref aR, .int (iI hrs)]) (rest := []) ⟨hx, hb, hml, hown, hts⟩ (c_L_stop l hflags g H.size aR aG aP aH aY aT aS aF aX aGn aGw aGs aTp aTt aTx aTy aE pr tk tol hou kn ld hrs nd wk sk (by first | (first | assumption | omega | exact bnd_up (by assumption) (by omega) (by omega)) | fail "q8") (by first | (first | assumption | omega | exact bnd_up (by assumption) (by omega) (by omega)) | fail "q8") (by first | (first | assumption | omega | exact bnd_up (by assumption) (by omega) (by omega)) | fail "q8") (by first | (first | assumption | omega | exact bnd_up (by assumption) (by omega) (by omega)) | fail "q8") (by first | (first | assumption | omega | exact bnd_up (by assumption) (by omega) (by omega)) | fail "q8") (by first | (first | assumption | omega | exact bnd_up (by assumption) (by omega) (by omega)) | fail "q8") (by first | (first | assumption | omega | exact bnd_up (by assumption) (by omega) (by omega)) | fail "q8")) (vx_cwSW 2 hts gL_isStopped_L_stop rfl rfl rfl (by decide +kernel) ⟨Nat.le_of_ble_eq_true rfl, Nat.le_of_ble_eq_true rfl⟩) ⟨xB_blind, hpre _⟩ rfl rfl hl.1 rfl (lv_room (Nat.le_of_ble_eq_true rfl)) dL_isStopped_103 ⟨Nat.le_of_ble_eq_true rfl, Nat.le_of_ble_eq_true rfl⟩) (fun (u : Unit) => [(aR, .inr (11, [.ref aG, .ref aP, .ref aH, .ref aY, .ref aT, .ref aS, .ref aF, .ref aX, .int (iI pr), .int (iI tk), .int (iI tol), .int (iI (if soT hou hrs = 0 then (hou + hrs) else hou))])), (aG, .inr (4, [.ref aGn, .ref aGw, .ref aGs, .int (iI kn)])), (aGn, .inl (gI g, 200, .inl (ar nd))), (aGw, .inl (gI g, 200, .inl (ar wk))), (aGs, .inl (gI g, 200, .inl (ar (if soT hou hrs = 0 then (sinkF kn sk ld (hrs * (mx 0 (gt0 kn nd ld - pr) * gt0 kn wk ld / 50))) else sk)))), (aT, .inr (9, [.ref aTp, .ref aTt, .ref aTx, .ref aTy, .ref aE, .int (iI ld)])), (aN, .inl (gI g, 1960, .inl (ar (up F1 4 v_9))))]) rfl rfl (by decide) (fun _ => rfl) rfl (fun u v_10 H locs hv_10 pv_10 hP hD hS => ?_)
            have hP : va_P (gD g) vwCl [(aR, .inr (11, [.ref aG, .ref aP, .ref aH, .ref aY, .ref aT, .ref aS, .ref aF, .ref aX, .int (iI pr), .int (iI tk), .int (iI tol), .int (iI (if soT hou hrs = 0 then (hou + hrs) else hou))])), (aG, .inr (4, [.ref aGn, .ref aGw, .ref aGs, .int (iI kn)])), (aGn, .inl (gI g, 200, .inl (ar nd))), (aGw, .inl (gI g, 200, .inl (ar wk))), (aGs, .inl (gI g, 200, .inl (ar (if soT hou hrs = 0 then (sinkF kn sk ld (hrs * (mx 0 (gt0 kn nd ld - pr) * gt0 kn wk ld / 50))) else sk)))), (aT, .inr (9, [.ref aTp, .ref aTt, .ref aTx, .ref aTy, .ref aE, .int (iI ld)])), (aN, .inl (gI g, 1960, .inl (ar (up F1 4 v_9))))] H := hP
            have hD : va_D A [(aR, .inr (11, [.ref aG, .ref aP, .ref aH, .ref aY, .ref aT, .ref aS, .ref aF, .ref aX, .int (iI pr), .int (iI tk), .int (iI tol), .int (iI (if soT hou hrs = 0 then (hou + hrs) else hou))])), (aG, .inr (4, [.ref aGn, .ref aGw, .ref aGs, .int (iI kn)])), (aGn, .inl (gI g, 200, .inl (ar nd))), (aGw, .inl (gI g, 200, .inl (ar wk))), (aGs, .inl (gI g, 200, .inl (ar (if soT hou hrs = 0 then (sinkF kn sk ld (hrs * (mx 0 (gt0 kn nd ld - pr) * gt0 kn wk ld / 50))) else sk)))), (aT, .inr (9, [.ref aTp, .ref aTt, .ref aTx, .ref aTy, .ref aE, .int (iI ld)])), (aN, .inl (gI g, 1960, .inl (ar (up F1 4 v_9))))] := hD
            have hv_10 : v_10 = (if soT hou hrs = 0 then hou + hrs else -900000 - soT hou hrs) := hv_10
            refine lv_aload_n hx hb dL_isStopped_106 rfl (lv_at hl 3 rfl) ?_
            refine x_iconst hx hb dL_isStopped_107 ?_
            refine x_iald hx hb hK hP 6 0 rfl rfl (by omega) (by omega) (Nat.le_of_ble_eq_true rfl) dL_isStopped_108 (fun v_11 hv_11 => ?_)
            (repeat (first | rw [up_at _ _ (by omega)] at hv_11 | rw [up_ne _ _ (by omega)] at hv_11))
            refine x_top (show v_11 = hou + hrs by
                first
                | (
                   omega)
                | fail "q9") ?_
            refine x_cmp_ne (tgt := 116) hx hb (by omega) (by omega) dL_isStopped_109 (by decide) (fun c_12 => ?_) (fun c_12 => ?_)
            · skip
              exfalso
              first
              | (
                 omega)
              | fail "q9"
            · skip
              refine x_iconst hx hb dL_isStopped_112 ?_
              refine lv_goto (tgt := 117) hx hb dL_isStopped_113 (by decide) ?_
              have q_13 : (up F1 4 v_9) = (up F1 4 v_9) := by
                first
                | (
                   first | rfl | omega | (subst_vars; first | rfl | omega))
                | fail "q9"
              have hw_14 := (congrArg (fun (z0 : Int → Int) => ([(aR, .inr (11, [.ref aG, .ref aP, .ref aH, .ref aY, .ref aT, .ref aS, .ref aF, .ref aX, .int (iI pr), .int (iI tk), .int (iI tol), .int (iI (if soT hou hrs = 0 then (hou + hrs) else hou))])), (aG, .inr (4, [.ref aGn, .ref aGw, .ref aGs, .int (iI kn)])), (aGn, .inl (gI g, 200, .inl (ar nd))), (aGw, .inl (gI g, 200, .inl (ar wk))), (aGs, .inl (gI g, 200, .inl (ar (if soT hou hrs = 0 then (sinkF kn sk ld (hrs * (mx 0 (gt0 kn nd ld - pr) * gt0 kn wk ld / 50))) else sk)))), (aT, .inr (9, [.ref aTp, .ref aTt, .ref aTx, .ref aTy, .ref aE, .int (iI ld)])), (aN, .inl (gI g, 1960, .inl (ar z0)))] : va_W)) q_13.symm)
              rw [hQ9]
              exact x_iret hx hb hr hlocks hP hD hS (S := (Int → Int)) (by decide) dL_isStopped_117 (up F1 4 v_9) (by
                  first
                  | (
                     exact (bI_t True.intro).symm)
                  | fail "q9") (by
                  first
                  | (
                     first | (rw [if_pos hT]; intro j hj; have q := hF1 j hj; simp only [up]; omega) | (rw [if_neg (by omega)]; exact agr_r _))
                  | fail "q9") hw_14 (Nat.le_of_ble_eq_true rfl) (Nat.le_of_ble_eq_true rfl)
          · skip
            refine lv_aload_n hx hb dL_isStopped_49 rfl (lv_at hl 3 rfl) ?_
            refine x_iconst hx hb dL_isStopped_50 ?_
            refine x_iald hx hb hK hP 6 0 rfl rfl (by omega) (by omega) (Nat.le_of_ble_eq_true rfl) dL_isStopped_51 (fun v_15 hv_15 => ?_)
            refine x_top (show v_15 = ld by
                first
                | (
                   rw [hv_15, hF1 2 (by omega)]; exact n2)
                | fail "q9") ?_
            refine lv_aload_n hx hb dL_isStopped_52 rfl (lv_at hl 3 rfl) ?_
            refine x_iconst hx hb dL_isStopped_53 ?_
            refine x_iald hx hb hK hP 6 0 rfl rfl (by omega) (by omega) (Nat.le_of_ble_eq_true rfl) dL_isStopped_54 (fun v_16 hv_16 => ?_)
            refine x_top (show v_16 = kn by
                first
                | (
                   rw [hv_16, hF1 0 (by omega)]; exact n0)
                | fail "q9") ?_
            refine x_cmp_ge (tgt := 94) hx hb (by omega) (by omega) dL_isStopped_55 (by decide) (fun c_17 => ?_) (fun c_17 => ?_)
            · skip
              have hT : soT hou hrs = 0 := by unfold soT; omega
              refine lv_aload_n hx hb dL_isStopped_94 rfl (lv_at hl 3 rfl) ?_
              refine x_iconst hx hb dL_isStopped_95 ?_
              refine lv_dup2_11 hx hb dL_isStopped_96 rfl rfl ?_
              refine x_iald hx hb hK hP 6 0 rfl rfl (by omega) (by omega) (Nat.le_of_ble_eq_true rfl) dL_isStopped_97 (fun v_18 hv_18 => ?_)
              refine x_top (show v_18 = hou by
                  first
                  | (
                     rw [hv_18, hF1 4 (by omega)]; exact n4)
                  | fail "q9") ?_
              refine lv_iload_n hx hb dL_isStopped_98 rfl (lv_at hl 4 rfl) ?_
              refine x_iadd hx hb dL_isStopped_99 ?_
              obtain ⟨v_19, ev_19⟩ : ∃ z : Int, z = hou + hrs := ⟨_, rfl⟩
              refine x_top ev_19.symm ?_
              refine x_iast hx hb hK hP hD hS 6 0 rfl rfl (by omega) (by omega) (Nat.le_of_ble_eq_true rfl) dL_isStopped_100 (fun H locs hP hD hS => ?_)
              have hP : va_P (gD g) vwCl [(aR, .inr (11, [.ref aG, .ref aP, .ref aH, .ref aY, .ref aT, .ref aS, .ref aF, .ref aX, .int (iI pr), .int (iI tk), .int (iI tol), .int (iI hou)])), (aG, .inr (4, [.ref aGn, .ref aGw, .ref aGs, .int (iI kn)])), (aGn, .inl (gI g, 200, .inl (ar nd))), (aGw, .inl (gI g, 200, .inl (ar wk))), (aGs, .inl (gI g, 200, .inl (ar sk))), (aT, .inr (9, [.ref aTp, .ref aTt, .ref aTx, .ref aTy, .ref aE, .int (iI ld)])), (aN, .inl (gI g, 1960, .inl (ar (up F1 4 v_19))))] H := hP
              have hD : va_D A [(aR, .inr (11, [.ref aG, .ref aP, .ref aH, .ref aY, .ref aT, .ref aS, .ref aF, .ref aX, .int (iI pr), .int (iI tk), .int (iI tol), .int (iI hou)])), (aG, .inr (4, [.ref aGn, .ref aGw, .ref aGs, .int (iI kn)])), (aGn, .inl (gI g, 200, .inl (ar nd))), (aGw, .inl (gI g, 200, .inl (ar wk))), (aGs, .inl (gI g, 200, .inl (ar sk))), (aT, .inr (9, [.ref aTp, .ref aTt, .ref aTx, .ref aTy, .ref aE, .int (iI ld)])), (aN, .inl (gI g, 1960, .inl (ar (up F1 4 v_19))))] := hD
              refine lv_aload_n hx hb dL_isStopped_101 rfl (lv_at hl 2 rfl) ?_
              refine lv_iload_n hx hb dL_isStopped_102 rfl (lv_at hl 4 rfl) ?_
              refine x_calli (S := Unit) (wc := [(aR, .inr (11, [.ref aG, .ref aP, .ref aH, .ref aY, .ref aT, .ref aS, .ref aF, .ref aX, .int (iI pr), .int (iI tk), .int (iI tol), .int (iI hou)])), (aG, .inr (4, [.ref aGn, .ref aGw, .ref aGs, .int (iI kn)])), (aGn, .inl (gI g, 200, .inl (ar nd))), (aGw, .inl (gI g, 200, .inl (ar wk))), (aGs, .inl (gI g, 200, .inl (ar sk))), (aT, .inr (9, [.ref aTp, .ref aTt, .ref aTx, .ref aTy, .ref aE, .int (iI ld)]))]) (wr := [(aN, .inl (gI g, 1960, .inl (ar (up F1 4 v_19))))]) hC hP hD hS hA [0, 1, 2, 3, 4, 5] [6] [1, 2, 3, 4, 5, 6, 0] rfl rfl (fun hpre => vx_runSW (As := [.ref aR, .int (iI hrs)]) (rest := []) ⟨hx, hb, hml, hown, hts⟩ (c_L_stop l hflags g H.size aR aG aP aH aY aT aS aF aX aGn aGw aGs aTp aTt aTx aTy aE pr tk tol hou kn ld hrs nd wk sk (by first | (first | assumption | omega | exact bnd_up (by assumption) (by omega) (by omega)) | fail "q8") (by first | (first | assumption | omega | exact bnd_up (by assumption) (by omega) (by omega)) | fail "q8") (by first | (first | assumption | omega | exact bnd_up (by assumption) (by omega) (by omega)) | fail "q8") (by first | (first | assumption | omega | exact bnd_up (by assumption) (by omega) (by omega)) | fail "q8") (by first | (first | assumption | omega | exact bnd_up (by assumption) (by omega) (by omega)) | fail "q8") (by first | (first | assumption | omega | exact bnd_up (by assumption) (by omega) (by omega)) | fail "q8") (by first | (first | assumption | omega | exact bnd_up (by assumption) (by omega) (by omega)) | fail "q8")) (vx_cwSW 2 hts gL_isStopped_L_stop rfl rfl rfl (by decide +kernel) ⟨Nat.le_of_ble_eq_true rfl, Nat.le_of_ble_eq_true rfl⟩) ⟨xB_blind, hpre _⟩ rfl rfl hl.1 rfl (lv_room (Nat.le_of_ble_eq_true rfl)) dL_isStopped_103 ⟨Nat.le_of_ble_eq_true rfl, Nat.le_of_ble_eq_true rfl⟩) (fun (u : Unit) => [(aR, .inr (11, [.ref aG, .ref aP, .ref aH, .ref aY, .ref aT, .ref aS, .ref aF, .ref aX, .int (iI pr), .int (iI tk), .int (iI tol), .int (iI (if soT hou hrs = 0 then (hou + hrs) else hou))])), (aG, .inr (4, [.ref aGn, .ref aGw, .ref aGs, .int (iI kn)])), (aGn, .inl (gI g, 200, .inl (ar nd))), (aGw, .inl (gI g, 200, .inl (ar wk))), (aGs, .inl (gI g, 200, .inl (ar (if soT hou hrs = 0 then (sinkF kn sk ld (hrs * (mx 0 (gt0 kn nd ld - pr) * gt0 kn wk ld / 50))) else sk)))), (aT, .inr (9, [.ref aTp, .ref aTt, .ref aTx, .ref aTy, .ref aE, .int (iI ld)])), (aN, .inl (gI g, 1960, .inl (ar (up F1 4 v_19))))]) rfl rfl (by decide) (fun _ => rfl) rfl (fun u v_20 H locs hv_20 pv_20 hP hD hS => ?_)
              have hP : va_P (gD g) vwCl [(aR, .inr (11, [.ref aG, .ref aP, .ref aH, .ref aY, .ref aT, .ref aS, .ref aF, .ref aX, .int (iI pr), .int (iI tk), .int (iI tol), .int (iI (if soT hou hrs = 0 then (hou + hrs) else hou))])), (aG, .inr (4, [.ref aGn, .ref aGw, .ref aGs, .int (iI kn)])), (aGn, .inl (gI g, 200, .inl (ar nd))), (aGw, .inl (gI g, 200, .inl (ar wk))), (aGs, .inl (gI g, 200, .inl (ar (if soT hou hrs = 0 then (sinkF kn sk ld (hrs * (mx 0 (gt0 kn nd ld - pr) * gt0 kn wk ld / 50))) else sk)))), (aT, .inr (9, [.ref aTp, .ref aTt, .ref aTx, .ref aTy, .ref aE, .int (iI ld)])), (aN, .inl (gI g, 1960, .inl (ar (up F1 4 v_19))))] H := hP
              have hD : va_D A [(aR, .inr (11, [.ref aG, .ref aP, .ref aH, .ref aY, .ref aT, .ref aS, .ref aF, .ref aX, .int (iI pr), .int (iI tk), .int (iI tol), .int (iI (if soT hou hrs = 0 then (hou + hrs) else hou))])), (aG, .inr (4, [.ref aGn, .ref aGw, .ref aGs, .int (iI kn)])), (aGn, .inl (gI g, 200, .inl (ar nd))), (aGw, .inl (gI g, 200, .inl (ar wk))), (aGs, .inl (gI g, 200, .inl (ar (if soT hou hrs = 0 then (sinkF kn sk ld (hrs * (mx 0 (gt0 kn nd ld - pr) * gt0 kn wk ld / 50))) else sk)))), (aT, .inr (9, [.ref aTp, .ref aTt, .ref aTx, .ref aTy, .ref aE, .int (iI ld)])), (aN, .inl (gI g, 1960, .inl (ar (up F1 4 v_19))))] := hD
              have hv_20 : v_20 = (if soT hou hrs = 0 then hou + hrs else -900000 - soT hou hrs) := hv_20
              refine lv_aload_n hx hb dL_isStopped_106 rfl (lv_at hl 3 rfl) ?_
              refine x_iconst hx hb dL_isStopped_107 ?_
              refine x_iald hx hb hK hP 6 0 rfl rfl (by omega) (by omega) (Nat.le_of_ble_eq_true rfl) dL_isStopped_108 (fun v_21 hv_21 => ?_)
              (repeat (first | rw [up_at _ _ (by omega)] at hv_21 | rw [up_ne _ _ (by omega)] at hv_21))
              refine x_top (show v_21 = hou + hrs by
                  first
                  | (
                     omega)
                  | fail "q9") ?_
              refine x_cmp_ne (tgt := 116) hx hb (by omega) (by omega) dL_isStopped_109 (by decide) (fun c_22 => ?_) (fun c_22 => ?_)
              · skip
                exfalso
                first
                | (
                   omega)
                | fail "q9"
              · skip
                refine x_iconst hx hb dL_isStopped_112 ?_
                refine lv_goto (tgt := 117) hx hb dL_isStopped_113 (by decide) ?_
                have q_23 : (up F1 4 v_19) = (up F1 4 v_19) := by
                  first
                  | (
                     first | rfl | omega | (subst_vars; first | rfl | omega))
                  | fail "q9"
                have hw_24 := (congrArg (fun (z0 : Int → Int) => ([(aR, .inr (11, [.ref aG, .ref aP, .ref aH, .ref aY, .ref aT, .ref aS, .ref aF, .ref aX, .int (iI pr), .int (iI tk), .int (iI tol), .int (iI (if soT hou hrs = 0 then (hou + hrs) else hou))])), (aG, .inr (4, [.ref aGn, .ref aGw, .ref aGs, .int (iI kn)])), (aGn, .inl (gI g, 200, .inl (ar nd))), (aGw, .inl (gI g, 200, .inl (ar wk))), (aGs, .inl (gI g, 200, .inl (ar (if soT hou hrs = 0 then (sinkF kn sk ld (hrs * (mx 0 (gt0 kn nd ld - pr) * gt0 kn wk ld / 50))) else sk)))), (aT, .inr (9, [.ref aTp, .ref aTt, .ref aTx, .ref aTy, .ref aE, .int (iI ld)])), (aN, .inl (gI g, 1960, .inl (ar z0)))] : va_W)) q_23.symm)
                rw [hQ9]
                exact x_iret hx hb hr hlocks hP hD hS (S := (Int → Int)) (by decide) dL_isStopped_117 (up F1 4 v_19) (by
                    first
                    | (
                       exact (bI_t True.intro).symm)
                    | fail "q9") (by
                    first
                    | (
                       first | (rw [if_pos hT]; intro j hj; have q := hF1 j hj; simp only [up]; omega) | (rw [if_neg (by omega)]; exact agr_r _))
                    | fail "q9") hw_24 (Nat.le_of_ble_eq_true rfl) (Nat.le_of_ble_eq_true rfl)
            · skip
              refine lv_iload_n hx hb dL_isStopped_58 rfl (lv_at hl 1 rfl) ?_
              refine x_if_le (tgt := 94) hx hb (by omega) dL_isStopped_59 (by decide) (fun c_25 => ?_) (fun c_25 => ?_)
              · skip
                have hT : soT hou hrs = 0 := by unfold soT; omega
                refine lv_aload_n hx hb dL_isStopped_94 rfl (lv_at hl 3 rfl) ?_
                refine x_iconst hx hb dL_isStopped_95 ?_
                refine lv_dup2_11 hx hb dL_isStopped_96 rfl rfl ?_
                refine x_iald hx hb hK hP 6 0 rfl rfl (by omega) (by omega) (Nat.le_of_ble_eq_true rfl) dL_isStopped_97 (fun v_26 hv_26 => ?_)
                refine x_top (show v_26 = hou by
                    first
                    | (
                       rw [hv_26, hF1 4 (by omega)]; exact n4)
                    | fail "q9") ?_
                refine lv_iload_n hx hb dL_isStopped_98 rfl (lv_at hl 4 rfl) ?_
                refine x_iadd hx hb dL_isStopped_99 ?_
                obtain ⟨v_27, ev_27⟩ : ∃ z : Int, z = hou + hrs := ⟨_, rfl⟩
                refine x_top ev_27.symm ?_
                refine x_iast hx hb hK hP hD hS 6 0 rfl rfl (by omega) (by omega) (Nat.le_of_ble_eq_true rfl) dL_isStopped_100 (fun H locs hP hD hS => ?_)
                have hP : va_P (gD g) vwCl [(aR, .inr (11, [.ref aG, .ref aP, .ref aH, .ref aY, .ref aT, .ref aS, .ref aF, .ref aX, .int (iI pr), .int (iI tk), .int (iI tol), .int (iI hou)])), (aG, .inr (4, [.ref aGn, .ref aGw, .ref aGs, .int (iI kn)])), (aGn, .inl (gI g, 200, .inl (ar nd))), (aGw, .inl (gI g, 200, .inl (ar wk))), (aGs, .inl (gI g, 200, .inl (ar sk))), (aT, .inr (9, [.ref aTp, .ref aTt, .ref aTx, .ref aTy, .ref aE, .int (iI ld)])), (aN, .inl (gI g, 1960, .inl (ar (up F1 4 v_27))))] H := hP
                have hD : va_D A [(aR, .inr (11, [.ref aG, .ref aP, .ref aH, .ref aY, .ref aT, .ref aS, .ref aF, .ref aX, .int (iI pr), .int (iI tk), .int (iI tol), .int (iI hou)])), (aG, .inr (4, [.ref aGn, .ref aGw, .ref aGs, .int (iI kn)])), (aGn, .inl (gI g, 200, .inl (ar nd))), (aGw, .inl (gI g, 200, .inl (ar wk))), (aGs, .inl (gI g, 200, .inl (ar sk))), (aT, .inr (9, [.ref aTp, .ref aTt, .ref aTx, .ref aTy, .ref aE, .int (iI ld)])), (aN, .inl (gI g, 1960, .inl (ar (up F1 4 v_27))))] := hD
                refine lv_aload_n hx hb dL_isStopped_101 rfl (lv_at hl 2 rfl) ?_
                refine lv_iload_n hx hb dL_isStopped_102 rfl (lv_at hl 4 rfl) ?_
                refine x_calli (S := Unit) (wc := [(aR, .inr (11, [.ref aG, .ref aP, .ref aH, .ref aY, .ref aT, .ref aS, .ref aF, .ref aX, .int (iI pr), .int (iI tk), .int (iI tol), .int (iI hou)])), (aG, .inr (4, [.ref aGn, .ref aGw, .ref aGs, .int (iI kn)])), (aGn, .inl (gI g, 200, .inl (ar nd))), (aGw, .inl (gI g, 200, .inl (ar wk))), (aGs, .inl (gI g, 200, .inl (ar sk))), (aT, .inr (9, [.ref aTp, .ref aTt, .ref aTx, .ref aTy, .ref aE, .int (iI ld)]))]) (wr := [(aN, .inl (gI g, 1960, .inl (ar (up F1 4 v_27))))]) hC hP hD hS hA [0, 1, 2, 3, 4, 5] [6] [1, 2, 3, 4, 5, 6, 0] rfl rfl (fun hpre => vx_runSW (As := [.ref aR, .int (iI hrs)]) (rest := []) ⟨hx, hb, hml, hown, hts⟩ (c_L_stop l hflags g H.size aR aG aP aH aY aT aS aF aX aGn aGw aGs aTp aTt aTx aTy aE pr tk tol hou kn ld hrs nd wk sk (by first | (first | assumption | omega | exact bnd_up (by assumption) (by omega) (by omega)) | fail "q8") (by first | (first | assumption | omega | exact bnd_up (by assumption) (by omega) (by omega)) | fail "q8") (by first | (first | assumption | omega | exact bnd_up (by assumption) (by omega) (by omega)) | fail "q8") (by first | (first | assumption | omega | exact bnd_up (by assumption) (by omega) (by omega)) | fail "q8") (by first | (first | assumption | omega | exact bnd_up (by assumption) (by omega) (by omega)) | fail "q8") (by first | (first | assumption | omega | exact bnd_up (by assumption) (by omega) (by omega)) | fail "q8") (by first | (first | assumption | omega | exact bnd_up (by assumption) (by omega) (by omega)) | fail "q8")) (vx_cwSW 2 hts gL_isStopped_L_stop rfl rfl rfl (by decide +kernel) ⟨Nat.le_of_ble_eq_true rfl, Nat.le_of_ble_eq_true rfl⟩) ⟨xB_blind, hpre _⟩ rfl rfl hl.1 rfl (lv_room (Nat.le_of_ble_eq_true rfl)) dL_isStopped_103 ⟨Nat.le_of_ble_eq_true rfl, Nat.le_of_ble_eq_true rfl⟩) (fun (u : Unit) => [(aR, .inr (11, [.ref aG, .ref aP, .ref aH, .ref aY, .ref aT, .ref aS, .ref aF, .ref aX, .int (iI pr), .int (iI tk), .int (iI tol), .int (iI (if soT hou hrs = 0 then (hou + hrs) else hou))])), (aG, .inr (4, [.ref aGn, .ref aGw, .ref aGs, .int (iI kn)])), (aGn, .inl (gI g, 200, .inl (ar nd))), (aGw, .inl (gI g, 200, .inl (ar wk))), (aGs, .inl (gI g, 200, .inl (ar (if soT hou hrs = 0 then (sinkF kn sk ld (hrs * (mx 0 (gt0 kn nd ld - pr) * gt0 kn wk ld / 50))) else sk)))), (aT, .inr (9, [.ref aTp, .ref aTt, .ref aTx, .ref aTy, .ref aE, .int (iI ld)])), (aN, .inl (gI g, 1960, .inl (ar (up F1 4 v_27))))]) rfl rfl (by decide) (fun _ => rfl) rfl (fun u v_28 H locs hv_28 pv_28 hP hD hS => ?_)
                have hP : va_P (gD g) vwCl [(aR, .inr (11, [.ref aG, .ref aP, .ref aH, .ref aY, .ref aT, .ref aS, .ref aF, .ref aX, .int (iI pr), .int (iI tk), .int (iI tol), .int (iI (if soT hou hrs = 0 then (hou + hrs) else hou))])), (aG, .inr (4, [.ref aGn, .ref aGw, .ref aGs, .int (iI kn)])), (aGn, .inl (gI g, 200, .inl (ar nd))), (aGw, .inl (gI g, 200, .inl (ar wk))), (aGs, .inl (gI g, 200, .inl (ar (if soT hou hrs = 0 then (sinkF kn sk ld (hrs * (mx 0 (gt0 kn nd ld - pr) * gt0 kn wk ld / 50))) else sk)))), (aT, .inr (9, [.ref aTp, .ref aTt, .ref aTx, .ref aTy, .ref aE, .int (iI ld)])), (aN, .inl (gI g, 1960, .inl (ar (up F1 4 v_27))))] H := hP
                have hD : va_D A [(aR, .inr (11, [.ref aG, .ref aP, .ref aH, .ref aY, .ref aT, .ref aS, .ref aF, .ref aX, .int (iI pr), .int (iI tk), .int (iI tol), .int (iI (if soT hou hrs = 0 then (hou + hrs) else hou))])), (aG, .inr (4, [.ref aGn, .ref aGw, .ref aGs, .int (iI kn)])), (aGn, .inl (gI g, 200, .inl (ar nd))), (aGw, .inl (gI g, 200, .inl (ar wk))), (aGs, .inl (gI g, 200, .inl (ar (if soT hou hrs = 0 then (sinkF kn sk ld (hrs * (mx 0 (gt0 kn nd ld - pr) * gt0 kn wk ld / 50))) else sk)))), (aT, .inr (9, [.ref aTp, .ref aTt, .ref aTx, .ref aTy, .ref aE, .int (iI ld)])), (aN, .inl (gI g, 1960, .inl (ar (up F1 4 v_27))))] := hD
                have hv_28 : v_28 = (if soT hou hrs = 0 then hou + hrs else -900000 - soT hou hrs) := hv_28
                refine lv_aload_n hx hb dL_isStopped_106 rfl (lv_at hl 3 rfl) ?_
                refine x_iconst hx hb dL_isStopped_107 ?_
                refine x_iald hx hb hK hP 6 0 rfl rfl (by omega) (by omega) (Nat.le_of_ble_eq_true rfl) dL_isStopped_108 (fun v_29 hv_29 => ?_)
                (repeat (first | rw [up_at _ _ (by omega)] at hv_29 | rw [up_ne _ _ (by omega)] at hv_29))
                refine x_top (show v_29 = hou + hrs by
                    first
                    | (
                       omega)
                    | fail "q9") ?_
                refine x_cmp_ne (tgt := 116) hx hb (by omega) (by omega) dL_isStopped_109 (by decide) (fun c_30 => ?_) (fun c_30 => ?_)
                · skip
                  exfalso
                  first
                  | (
                     omega)
                  | fail "q9"
                · skip
                  refine x_iconst hx hb dL_isStopped_112 ?_
                  refine lv_goto (tgt := 117) hx hb dL_isStopped_113 (by decide) ?_
                  have q_31 : (up F1 4 v_27) = (up F1 4 v_27) := by
                    first
                    | (
                       first | rfl | omega | (subst_vars; first | rfl | omega))
                    | fail "q9"
                  have hw_32 := (congrArg (fun (z0 : Int → Int) => ([(aR, .inr (11, [.ref aG, .ref aP, .ref aH, .ref aY, .ref aT, .ref aS, .ref aF, .ref aX, .int (iI pr), .int (iI tk), .int (iI tol), .int (iI (if soT hou hrs = 0 then (hou + hrs) else hou))])), (aG, .inr (4, [.ref aGn, .ref aGw, .ref aGs, .int (iI kn)])), (aGn, .inl (gI g, 200, .inl (ar nd))), (aGw, .inl (gI g, 200, .inl (ar wk))), (aGs, .inl (gI g, 200, .inl (ar (if soT hou hrs = 0 then (sinkF kn sk ld (hrs * (mx 0 (gt0 kn nd ld - pr) * gt0 kn wk ld / 50))) else sk)))), (aT, .inr (9, [.ref aTp, .ref aTt, .ref aTx, .ref aTy, .ref aE, .int (iI ld)])), (aN, .inl (gI g, 1960, .inl (ar z0)))] : va_W)) q_31.symm)
                  rw [hQ9]
                  exact x_iret hx hb hr hlocks hP hD hS (S := (Int → Int)) (by decide) dL_isStopped_117 (up F1 4 v_27) (by
                      first
                      | (
                         exact (bI_t True.intro).symm)
                      | fail "q9") (by
                      first
                      | (
                         first | (rw [if_pos hT]; intro j hj; have q := hF1 j hj; simp only [up]; omega) | (rw [if_neg (by omega)]; exact agr_r _))
                      | fail "q9") hw_32 (Nat.le_of_ble_eq_true rfl) (Nat.le_of_ble_eq_true rfl)
              · skip
                refine lv_aload_n hx hb dL_isStopped_62 rfl (lv_at hl 3 rfl) ?_
                refine x_sipush hx hb dL_isStopped_63 (by decide) ?_
                refine lv_aload_n hx hb dL_isStopped_66 rfl (lv_at hl 3 rfl) ?_
                refine x_iconst hx hb dL_isStopped_67 ?_
                refine x_iald hx hb hK hP 6 0 rfl rfl (by omega) (by omega) (Nat.le_of_ble_eq_true rfl) dL_isStopped_68 (fun v_33 hv_33 => ?_)
                refine x_top (show v_33 = ld by
                    first
                    | (
                       rw [hv_33, hF1 2 (by omega)]; exact n2)
                    | fail "q9") ?_
                refine x_iadd hx hb dL_isStopped_69 ?_
                refine lv_dup2_11 hx hb dL_isStopped_70 rfl rfl ?_
                refine x_iald hx hb hK hP 6 0 rfl rfl (by omega) (by omega) (Nat.le_of_ble_eq_true rfl) dL_isStopped_71 (fun v_34 hv_34 => ?_)
                refine lv_iload_n hx hb dL_isStopped_72 rfl (lv_at hl 1 rfl) ?_
                refine lv_aload_n hx hb dL_isStopped_73 rfl (lv_at hl 3 rfl) ?_
                refine x_sipush hx hb dL_isStopped_74 (by decide) ?_
                refine lv_aload_n hx hb dL_isStopped_77 rfl (lv_at hl 3 rfl) ?_
                refine x_iconst hx hb dL_isStopped_78 ?_
                refine x_iald hx hb hK hP 6 0 rfl rfl (by omega) (by omega) (Nat.le_of_ble_eq_true rfl) dL_isStopped_79 (fun v_35 hv_35 => ?_)
                refine x_top (show v_35 = ld by
                    first
                    | (
                       rw [hv_35, hF1 2 (by omega)]; exact n2)
                    | fail "q9") ?_
                refine x_iadd hx hb dL_isStopped_80 ?_
                refine x_iald hx hb hK hP 6 0 rfl rfl (by omega) (by omega) (Nat.le_of_ble_eq_true rfl) dL_isStopped_81 (fun v_36 hv_36 => ?_)
                refine x_top (show v_36 = wk ld by
                    first
                    | (
                       rw [hv_36, hF1 _ (by omega)]; exact n220 (by omega))
                    | fail "q9") ?_
                refine x_imul hx hb dL_isStopped_82 ?_
                refine x_bipush hx hb dL_isStopped_83 (by decide) ?_
                have m9 := mulb0 (A := 100) (B := 20) (a := v_6) (b := wk ld) (by omega) hw
                refine x_idiv hx hb (by omega) (by omega) dL_isStopped_85 ?_
                refine x_iadd hx hb dL_isStopped_86 ?_
                obtain ⟨v_37, ev_37⟩ : ∃ z : Int, z = v_34 + ((v_6 * (wk ld)) / 50) := ⟨_, rfl⟩
                refine x_top ev_37.symm ?_
                refine x_iast hx hb hK hP hD hS 6 0 rfl rfl (by omega) (by omega) (Nat.le_of_ble_eq_true rfl) dL_isStopped_87 (fun H locs hP hD hS => ?_)
                have hP : va_P (gD g) vwCl [(aR, .inr (11, [.ref aG, .ref aP, .ref aH, .ref aY, .ref aT, .ref aS, .ref aF, .ref aX, .int (iI pr), .int (iI tk), .int (iI tol), .int (iI hou)])), (aG, .inr (4, [.ref aGn, .ref aGw, .ref aGs, .int (iI kn)])), (aGn, .inl (gI g, 200, .inl (ar nd))), (aGw, .inl (gI g, 200, .inl (ar wk))), (aGs, .inl (gI g, 200, .inl (ar sk))), (aT, .inr (9, [.ref aTp, .ref aTt, .ref aTx, .ref aTy, .ref aE, .int (iI ld)])), (aN, .inl (gI g, 1960, .inl (ar (up F1 (820 + ld) v_37))))] H := hP
                have hD : va_D A [(aR, .inr (11, [.ref aG, .ref aP, .ref aH, .ref aY, .ref aT, .ref aS, .ref aF, .ref aX, .int (iI pr), .int (iI tk), .int (iI tol), .int (iI hou)])), (aG, .inr (4, [.ref aGn, .ref aGw, .ref aGs, .int (iI kn)])), (aGn, .inl (gI g, 200, .inl (ar nd))), (aGw, .inl (gI g, 200, .inl (ar wk))), (aGs, .inl (gI g, 200, .inl (ar sk))), (aT, .inr (9, [.ref aTp, .ref aTt, .ref aTx, .ref aTy, .ref aE, .int (iI ld)])), (aN, .inl (gI g, 1960, .inl (ar (up F1 (820 + ld) v_37))))] := hD
                refine x_iinc (k := 0) (lv' := [(4, .int (iI (zk + 1))), (3, .int (iI v_6)), (0, .ref aR), (1, .ref aN), (2, .int (iI hrs))]) hx hb dL_isStopped_88 hl rfl (by decide) rfl (fun ls hl => ?_)
                refine lv_goto (tgt := 43) hx hb dL_isStopped_91 (by decide) ?_
                exact ih43 (zk + 1) (up F1 (820 + ld) v_37) (show 0 ≤ (zk + 1) ∧ (zk + 1) ≤ hrs by
                    first
                    | (
                       first | assumption | omega | rfl)
                    | fail "q9") (show agr (up F1 (820 + ld) v_37) F by
                    first
                    | (
                       intro j hj
                       rw [up_ne _ _ (by omega)]
                       exact hF1 j hj)
                    | fail "q9") (by
                    first
                    | (
                       omega)
                    | fail "q9") _ _ hP hD hS ls (lv_sub hl [0, 1, 2, 3, 4] rfl)
      exact lp43 (hrs + 1 - 0 : Int).toNat 0 F (show 0 ≤ 0 ∧ 0 ≤ hrs by
          first
          | (
             first | assumption | omega | rfl)
          | fail "q9") (show agr F F by
          first
          | (
             exact agr_r _)
          | fail "q9") (by omega) _ _ hP hD hS ls (lv_sub hl [0, 1, 2, 3, 4] rfl)
    · skip
      have hT : soT hou hrs = 2 := by unfold soT; omega
      refine lv_aload_n hx hb dL_isStopped_11 rfl (lv_at hl 0 rfl) ?_
      refine lv_iload_n hx hb dL_isStopped_12 rfl (lv_at hl 2 rfl) ?_
      refine x_calli (S := Unit) (wc := [(aR, .inr (11, [.ref aG, .ref aP, .ref aH, .ref aY, .ref aT, .ref aS, .ref aF, .ref aX, .int (iI pr), .int (iI tk), .int (iI tol), .int (iI hou)])), (aG, .inr (4, [.ref aGn, .ref aGw, .ref aGs, .int (iI kn)])), (aGn, .inl (gI g, 200, .inl (ar nd))), (aGw, .inl (gI g, 200, .inl (ar wk))), (aGs, .inl (gI g, 200, .inl (ar sk))), (aT, .inr (9, [.ref aTp, .ref aTt, .ref aTx, .ref aTy, .ref aE, .int (iI ld)]))]) (wr := [(aN, .inl (gI g, 1960, .inl (ar F)))]) hC hP hD hS hA [0, 1, 2, 3, 4, 5] [6] [1, 2, 3, 4, 5, 6, 0] rfl rfl (fun hpre => vx_runSW (As := [.ref aR, .int (iI hrs)]) (rest := []) ⟨hx, hb, hml, hown, hts⟩ (c_L_stop l hflags g H.size aR aG aP aH aY aT aS aF aX aGn aGw aGs aTp aTt aTx aTy aE pr tk tol hou kn ld hrs nd wk sk (by first | (first | assumption | omega | exact bnd_up (by assumption) (by omega) (by omega)) | fail "q8") (by first | (first | assumption | omega | exact bnd_up (by assumption) (by omega) (by omega)) | fail "q8") (by first | (first | assumption | omega | exact bnd_up (by assumption) (by omega) (by omega)) | fail "q8") (by first | (first | assumption | omega | exact bnd_up (by assumption) (by omega) (by omega)) | fail "q8") (by first | (first | assumption | omega | exact bnd_up (by assumption) (by omega) (by omega)) | fail "q8") (by first | (first | assumption | omega | exact bnd_up (by assumption) (by omega) (by omega)) | fail "q8") (by first | (first | assumption | omega | exact bnd_up (by assumption) (by omega) (by omega)) | fail "q8")) (vx_cwSW 2 hts gL_isStopped_L_stop rfl rfl rfl (by decide +kernel) ⟨Nat.le_of_ble_eq_true rfl, Nat.le_of_ble_eq_true rfl⟩) ⟨xB_blind, hpre _⟩ rfl rfl hl.1 rfl (lv_room (Nat.le_of_ble_eq_true rfl)) dL_isStopped_13 ⟨Nat.le_of_ble_eq_true rfl, Nat.le_of_ble_eq_true rfl⟩) (fun (u : Unit) => [(aR, .inr (11, [.ref aG, .ref aP, .ref aH, .ref aY, .ref aT, .ref aS, .ref aF, .ref aX, .int (iI pr), .int (iI tk), .int (iI tol), .int (iI (if soT hou hrs = 0 then (hou + hrs) else hou))])), (aG, .inr (4, [.ref aGn, .ref aGw, .ref aGs, .int (iI kn)])), (aGn, .inl (gI g, 200, .inl (ar nd))), (aGw, .inl (gI g, 200, .inl (ar wk))), (aGs, .inl (gI g, 200, .inl (ar (if soT hou hrs = 0 then (sinkF kn sk ld (hrs * (mx 0 (gt0 kn nd ld - pr) * gt0 kn wk ld / 50))) else sk)))), (aT, .inr (9, [.ref aTp, .ref aTt, .ref aTx, .ref aTy, .ref aE, .int (iI ld)])), (aN, .inl (gI g, 1960, .inl (ar F)))]) rfl rfl (by decide) (fun _ => rfl) rfl (fun u v_38 H locs hv_38 pv_38 hP hD hS => ?_)
      have hP : va_P (gD g) vwCl [(aR, .inr (11, [.ref aG, .ref aP, .ref aH, .ref aY, .ref aT, .ref aS, .ref aF, .ref aX, .int (iI pr), .int (iI tk), .int (iI tol), .int (iI (if soT hou hrs = 0 then (hou + hrs) else hou))])), (aG, .inr (4, [.ref aGn, .ref aGw, .ref aGs, .int (iI kn)])), (aGn, .inl (gI g, 200, .inl (ar nd))), (aGw, .inl (gI g, 200, .inl (ar wk))), (aGs, .inl (gI g, 200, .inl (ar (if soT hou hrs = 0 then (sinkF kn sk ld (hrs * (mx 0 (gt0 kn nd ld - pr) * gt0 kn wk ld / 50))) else sk)))), (aT, .inr (9, [.ref aTp, .ref aTt, .ref aTx, .ref aTy, .ref aE, .int (iI ld)])), (aN, .inl (gI g, 1960, .inl (ar F)))] H := hP
      have hD : va_D A [(aR, .inr (11, [.ref aG, .ref aP, .ref aH, .ref aY, .ref aT, .ref aS, .ref aF, .ref aX, .int (iI pr), .int (iI tk), .int (iI tol), .int (iI (if soT hou hrs = 0 then (hou + hrs) else hou))])), (aG, .inr (4, [.ref aGn, .ref aGw, .ref aGs, .int (iI kn)])), (aGn, .inl (gI g, 200, .inl (ar nd))), (aGw, .inl (gI g, 200, .inl (ar wk))), (aGs, .inl (gI g, 200, .inl (ar (if soT hou hrs = 0 then (sinkF kn sk ld (hrs * (mx 0 (gt0 kn nd ld - pr) * gt0 kn wk ld / 50))) else sk)))), (aT, .inr (9, [.ref aTp, .ref aTt, .ref aTx, .ref aTy, .ref aE, .int (iI ld)])), (aN, .inl (gI g, 1960, .inl (ar F)))] := hD
      have hv_38 : v_38 = (if soT hou hrs = 0 then hou + hrs else -900000 - soT hou hrs) := hv_38
      refine x_ldc (v := -900002) hx hb hown (hts (.constant RL 20 (-900002)) (List.mem_of_getElem? (i := 1) rfl)) (by decide) dL_isStopped_16 ?_
      refine x_cmp_ne (tgt := 25) hx hb (by omega) (by omega) dL_isStopped_18 (by decide) (fun c_39 => ?_) (fun c_39 => ?_)
      · skip
        exfalso
        first
        | (
           omega)
        | fail "q9"
      · skip
        refine x_iconst hx hb dL_isStopped_21 ?_
        refine lv_goto (tgt := 26) hx hb dL_isStopped_22 (by decide) ?_
        rw [hQ9]
        exact x_iret hx hb hr hlocks hP hD hS (S := (Int → Int)) (by decide) dL_isStopped_26 F (by
            first
            | (
               exact (bI_t True.intro).symm)
            | fail "q9") (by
            first
            | (
               first | (rw [if_pos hT]; intro j hj; have q := hF1 j hj; simp only [up]; omega) | (rw [if_neg (by omega)]; exact agr_r _))
            | fail "q9") rfl (Nat.le_of_ble_eq_true rfl) (Nat.le_of_ble_eq_true rfl)
  rw [hH, hlo, hQ9] at goal_
  exact goal_

set_option maxHeartbeats 4000000 in
set_option maxRecDepth 100000 in
theorem c_L_isHouse (l : Launch) (hflags : l.stackTraces = false) (g : xg) (sz : Nat) (aR aG aP aH aY aT aS aF aX aGn aGw aGs aHf aHl aHm aHr aHp aN : Nat) (pr tk tol hou kn bu fr lr nl nr : Int) (fi la li ra F : Int → Int) (hkn : 0 ≤ kn ∧ kn ≤ 200) (hbu : 0 ≤ bu ∧ bu ≤ 8) (n0 : F 0 = kn) (n3 : F 3 = bu) (hfr : 0 ≤ fr ∧ fr ≤ 200) (hlr : 0 ≤ lr ∧ lr ≤ 200) (hnl : 0 ≤ nl ∧ nl ≤ 30) (hnr : 1 ≤ nr ∧ nr ≤ 50) : Met l yL_isHouse wsL_isHouse { frames := 9, cells := 5, slots := 30, locals := 163 } (va_Pc [.ref aR, .ref aN, .int (iI fr), .int (iI lr), .int (iI nl), .int (iI nr)] (xB g [(aR, .inr (11, [.ref aG, .ref aP, .ref aH, .ref aY, .ref aT, .ref aS, .ref aF, .ref aX, .int (iI pr), .int (iI tk), .int (iI tol), .int (iI hou)])), (aG, .inr (4, [.ref aGn, .ref aGw, .ref aGs, .int (iI kn)])), (aH, .inr (5, [.ref aHf, .ref aHl, .ref aHm, .ref aHr, .ref aHp, .int (iI bu)])), (aHf, .inl (gI g, 8, .inl (ar fi))), (aHl, .inl (gI g, 8, .inl (ar la))), (aHm, .inl (gI g, 8, .inl (ar li))), (aHr, .inl (gI g, 8, .inl (ar ra))), (aN, .inl (gI g, 1960, .inl (ar F)))] sz)) (va_Qi (fun r u => r = iI ((fun (u : (Int → Int)) => bI (True)) u) ∧ (fun (u : (Int → Int)) => agr u (if ahT kn bu fr lr nl nr = 0 then up F 3 (bu + 1) else F)) u) (fun u t => xE g (va_A [(aR, .inr (11, [.ref aG, .ref aP, .ref aH, .ref aY, .ref aT, .ref aS, .ref aF, .ref aX, .int (iI pr), .int (iI tk), .int (iI tol), .int (iI hou)])), (aG, .inr (4, [.ref aGn, .ref aGw, .ref aGs, .int (iI kn)])), (aH, .inr (5, [.ref aHf, .ref aHl, .ref aHm, .ref aHr, .ref aHp, .int (iI bu)])), (aHf, .inl (gI g, 8, .inl (ar fi))), (aHl, .inl (gI g, 8, .inl (ar la))), (aHm, .inl (gI g, 8, .inl (ar li))), (aHr, .inl (gI g, 8, .inl (ar ra))), (aN, .inl (gI g, 1960, .inl (ar F)))] sz) ((fun (u : (Int → Int)) => [(aR, .inr (11, [.ref aG, .ref aP, .ref aH, .ref aY, .ref aT, .ref aS, .ref aF, .ref aX, .int (iI pr), .int (iI tk), .int (iI tol), .int (iI hou)])), (aG, .inr (4, [.ref aGn, .ref aGw, .ref aGs, .int (iI kn)])), (aH, .inr (5, [.ref aHf, .ref aHl, .ref aHm, .ref aHr, .ref aHp, .int (iI (if ahT kn bu fr lr nl nr = 0 then (bu + 1) else bu))])), (aHf, .inl (gI g, 8, .inl (ar (if ahT kn bu fr lr nl nr = 0 then (up fi bu fr) else fi)))), (aHl, .inl (gI g, 8, .inl (ar (if ahT kn bu fr lr nl nr = 0 then (up la bu lr) else la)))), (aHm, .inl (gI g, 8, .inl (ar (if ahT kn bu fr lr nl nr = 0 then (up li bu nl) else li)))), (aHr, .inl (gI g, 8, .inl (ar (if ahT kn bu fr lr nl nr = 0 then (up ra bu nr) else ra)))), (aN, .inl (gI g, 1960, .inl (ar u)))]) u) t) (va_A [(aR, .inr (11, [.ref aG, .ref aP, .ref aH, .ref aY, .ref aT, .ref aS, .ref aF, .ref aX, .int (iI pr), .int (iI tk), .int (iI tol), .int (iI hou)])), (aG, .inr (4, [.ref aGn, .ref aGw, .ref aGs, .int (iI kn)])), (aH, .inr (5, [.ref aHf, .ref aHl, .ref aHm, .ref aHr, .ref aHp, .int (iI bu)])), (aHf, .inl (gI g, 8, .inl (ar fi))), (aHl, .inl (gI g, 8, .inl (ar la))), (aHm, .inl (gI g, 8, .inl (ar li))), (aHr, .inl (gI g, 8, .inl (ar ra))), (aN, .inl (gI g, 1960, .inl (ar F)))] sz)) 5 30 (va_A [(aR, .inr (11, [.ref aG, .ref aP, .ref aH, .ref aY, .ref aT, .ref aS, .ref aF, .ref aX, .int (iI pr), .int (iI tk), .int (iI tol), .int (iI hou)])), (aG, .inr (4, [.ref aGn, .ref aGw, .ref aGs, .int (iI kn)])), (aH, .inr (5, [.ref aHf, .ref aHl, .ref aHm, .ref aHr, .ref aHp, .int (iI bu)])), (aHf, .inl (gI g, 8, .inl (ar fi))), (aHl, .inl (gI g, 8, .inl (ar la))), (aHm, .inl (gI g, 8, .inl (ar li))), (aHr, .inl (gI g, 8, .inl (ar ra))), (aN, .inl (gI g, 1960, .inl (ar F)))] sz) := by
  refine x_enter (y := yL_isHouse) (ws := wsL_isHouse) (g := g) (sz := sz) (av := [.ref aR, .ref aN, .int (iI fr), .int (iI lr), .int (iI nl), .int (iI nr)]) (WS := [(aR, .inr (11, [.ref aG, .ref aP, .ref aH, .ref aY, .ref aT, .ref aS, .ref aF, .ref aX, .int (iI pr), .int (iI tk), .int (iI tol), .int (iI hou)])), (aG, .inr (4, [.ref aGn, .ref aGw, .ref aGs, .int (iI kn)])), (aH, .inr (5, [.ref aHf, .ref aHl, .ref aHm, .ref aHr, .ref aHp, .int (iI bu)])), (aHf, .inl (gI g, 8, .inl (ar fi))), (aHl, .inl (gI g, 8, .inl (ar la))), (aHm, .inl (gI g, 8, .inl (ar li))), (aHr, .inl (gI g, 8, .inl (ar ra))), (aN, .inl (gI g, 1960, .inl (ar F)))]) (cc := cL_isHouse) (maxL := 8) (ret := some .boolean) (Qc := (fun A => (va_Qi (fun r u => r = iI ((fun (u : (Int → Int)) => bI (True)) u) ∧ (fun (u : (Int → Int)) => agr u (if ahT kn bu fr lr nl nr = 0 then up F 3 (bu + 1) else F)) u) (fun u t => xE g A ((fun (u : (Int → Int)) => [(aR, .inr (11, [.ref aG, .ref aP, .ref aH, .ref aY, .ref aT, .ref aS, .ref aF, .ref aX, .int (iI pr), .int (iI tk), .int (iI tol), .int (iI hou)])), (aG, .inr (4, [.ref aGn, .ref aGw, .ref aGs, .int (iI kn)])), (aH, .inr (5, [.ref aHf, .ref aHl, .ref aHm, .ref aHr, .ref aHp, .int (iI (if ahT kn bu fr lr nl nr = 0 then (bu + 1) else bu))])), (aHf, .inl (gI g, 8, .inl (ar (if ahT kn bu fr lr nl nr = 0 then (up fi bu fr) else fi)))), (aHl, .inl (gI g, 8, .inl (ar (if ahT kn bu fr lr nl nr = 0 then (up la bu lr) else la)))), (aHm, .inl (gI g, 8, .inl (ar (if ahT kn bu fr lr nl nr = 0 then (up li bu nl) else li)))), (aHr, .inl (gI g, 8, .inl (ar (if ahT kn bu fr lr nl nr = 0 then (up ra bu nr) else ra)))), (aN, .inl (gI g, 1960, .inl (ar u)))]) u) t) A))) (by decide) rfl (Nat.le_of_ble_eq_true rfl) ?_
  intro p e s m args below meth c A ls hx hb hr hml hown hts hlocks hname hC hP hD hS hA hl
  have hK := hC.1
  have hown : s.vm.findClass RL = some m.cls := hown
  have hl : lv_has ls 8 [(0, .ref aR), (1, .ref aN), (2, .int (iI fr)), (3, .int (iI lr)), (4, .int (iI nl)), (5, .int (iI nr))] := hl
  obtain ⟨H, hH⟩ : ∃ z, z = s.heap := ⟨_, rfl⟩
  obtain ⟨locs, hlo⟩ : ∃ z : List Loc, z = [] := ⟨_, rfl⟩
  obtain ⟨Q9, hQ9⟩ : ∃ z, z = MQ below (va_Qi (fun r u => r = iI ((fun (u : (Int → Int)) => bI (True)) u) ∧ (fun (u : (Int → Int)) => agr u (if ahT kn bu fr lr nl nr = 0 then up F 3 (bu + 1) else F)) u) (fun u t => xE g A ((fun (u : (Int → Int)) => [(aR, .inr (11, [.ref aG, .ref aP, .ref aH, .ref aY, .ref aT, .ref aS, .ref aF, .ref aX, .int (iI pr), .int (iI tk), .int (iI tol), .int (iI hou)])), (aG, .inr (4, [.ref aGn, .ref aGw, .ref aGs, .int (iI kn)])), (aH, .inr (5, [.ref aHf, .ref aHl, .ref aHm, .ref aHr, .ref aHp, .int (iI (if ahT kn bu fr lr nl nr = 0 then (bu + 1) else bu))])), (aHf, .inl (gI g, 8, .inl (ar (if ahT kn bu fr lr nl nr = 0 then (up fi bu fr) else fi)))), (aHl, .inl (gI g, 8, .inl (ar (if ahT kn bu fr lr nl nr = 0 then (up la bu lr) else la)))), (aHm, .inl (gI g, 8, .inl (ar (if ahT kn bu fr lr nl nr = 0 then (up li bu nl) else li)))), (aHr, .inl (gI g, 8, .inl (ar (if ahT kn bu fr lr nl nr = 0 then (up ra bu nr) else ra)))), (aN, .inl (gI g, 1960, .inl (ar u)))]) u) t) A) args s 5 30 A := ⟨_, rfl⟩
  have hP : va_P (gD g) vwCl [(aR, .inr (11, [.ref aG, .ref aP, .ref aH, .ref aY, .ref aT, .ref aS, .ref aF, .ref aX, .int (iI pr), .int (iI tk), .int (iI tol), .int (iI hou)])), (aG, .inr (4, [.ref aGn, .ref aGw, .ref aGs, .int (iI kn)])), (aH, .inr (5, [.ref aHf, .ref aHl, .ref aHm, .ref aHr, .ref aHp, .int (iI bu)])), (aHf, .inl (gI g, 8, .inl (ar fi))), (aHl, .inl (gI g, 8, .inl (ar la))), (aHm, .inl (gI g, 8, .inl (ar li))), (aHr, .inl (gI g, 8, .inl (ar ra))), (aN, .inl (gI g, 1960, .inl (ar F)))] H := by rw [hH]; exact hP
  have hS : va_S A s.heap H locs := by rw [hH, hlo]; exact hS
  have goal_ : W p l e { frames := 9, cells := 5, slots := 30, locals := 163 } s m args below meth c H locs 0 0 Q9 (F0 m 0 ls []) := by
    clear hH hlo
    refine lv_iload_n hx hb dL_isHouse_0 rfl (lv_at hl 2 rfl) ?_
    refine lv_iload_n hx hb dL_isHouse_1 rfl (lv_at hl 3 rfl) ?_
    refine x_max hx hb (hml.trans hl.1.symm) hown (hts (.methodLink RL 171 Lib.Math.max.name) (List.mem_of_getElem? (i := 1) rfl)) (hts (.static Lib.Math.max.name) (List.mem_of_getElem? (i := 2) rfl)) (hts (.initialized "java/lang/Math") (List.mem_of_getElem? (i := 3) rfl)) (hts (.code Lib.Math.max.name Lib.Math.max.code 2 (some .int)) (List.mem_of_getElem? (i := 4) rfl)) (Nat.le_of_ble_eq_true rfl) (Nat.le_of_ble_eq_true rfl) (Nat.le_of_ble_eq_true rfl) (Nat.le_of_ble_eq_true rfl) (by omega) (by omega) dL_isHouse_2 (fun v_1 hv_1 => ?_)
    have bv_1 := mx_r fr lr hv_1
    refine lv_aload_n hx hb dL_isHouse_5 rfl (lv_at hl 1 rfl) ?_
    refine x_iconst hx hb dL_isHouse_6 ?_
    refine x_iald hx hb hK hP 7 0 rfl rfl (by omega) (by omega) (Nat.le_of_ble_eq_true rfl) dL_isHouse_7 (fun v_2 hv_2 => ?_)
    refine x_top (show v_2 = kn by
        first
        | (
           omega)
        | fail "q9") ?_
    refine x_cmp_lt (tgt := 15) hx hb (by omega) (by omega) dL_isHouse_8 (by decide) (fun c_3 => ?_) (fun c_3 => ?_)
    · skip
      refine x_iconst hx hb dL_isHouse_15 ?_
      refine lv_istore (lv' := [(6, .int (iI 0)), (0, .ref aR), (1, .ref aN), (2, .int (iI fr)), (3, .int (iI lr)), (4, .int (iI nl)), (5, .int (iI nr))]) hx hb dL_isHouse_16 hl (by decide) rfl (fun ls hl => ?_)
      refine lv_iload hx hb dL_isHouse_18 (lv_at hl 0 rfl) ?_
      refine x_if_ne (tgt := 28) hx hb (by omega) dL_isHouse_20 (by decide) (fun c_4 => ?_) (fun c_4 => ?_)
      · skip
        exact absurd c_4 (by decide)
      · skip
        refine lv_iload_n hx hb dL_isHouse_23 rfl (lv_at hl 4 rfl) ?_
        refine lv_iload_n hx hb dL_isHouse_24 rfl (lv_at hl 3 rfl) ?_
        refine x_cmp_ge (tgt := 59) hx hb (by omega) (by omega) dL_isHouse_25 (by decide) (fun c_5 => ?_) (fun c_5 => ?_)
        · skip
          refine lv_aload_n hx hb dL_isHouse_59 rfl (lv_at hl 2 rfl) ?_
          refine x_iconst hx hb dL_isHouse_60 ?_
          refine x_iald hx hb hK hP 7 0 rfl rfl (by omega) (by omega) (Nat.le_of_ble_eq_true rfl) dL_isHouse_61 (fun v_6 hv_6 => ?_)
          refine x_top (show v_6 = bu by
              first
              | (
                 omega)
              | fail "q9") ?_
          refine x_bipush hx hb dL_isHouse_62 (by decide) ?_
          refine x_cmp_ne (tgt := 88) hx hb (by omega) (by omega) dL_isHouse_64 (by decide) (fun c_7 => ?_) (fun c_7 => ?_)
          · skip
            have hT : ahT kn bu fr lr nl nr = 0 := by unfold ahT; omega
            refine x_sipush hx hb dL_isHouse_88 (by decide) ?_
            refine x_iconst hx hb dL_isHouse_91 ?_
            refine lv_aload_n hx hb dL_isHouse_92 rfl (lv_at hl 2 rfl) ?_
            refine x_iconst hx hb dL_isHouse_93 ?_
            refine x_iald hx hb hK hP 7 0 rfl rfl (by omega) (by omega) (Nat.le_of_ble_eq_true rfl) dL_isHouse_94 (fun v_8 hv_8 => ?_)
            refine x_top (show v_8 = bu by
                first
                | (
                   omega)
                | fail "q9") ?_
            refine x_imul hx hb dL_isHouse_95 ?_
            refine x_iadd hx hb dL_isHouse_96 ?_
            obtain ⟨v_9, ev_9⟩ : ∃ z : Int, z = 1900 + (5 * bu) := ⟨_, rfl⟩
            refine x_top ev_9.symm ?_
            refine lv_istore (lv' := [(7, .int (iI v_9)), (6, .int (iI 0)), (0, .ref aR), (1, .ref aN), (2, .int (iI fr)), (3, .int (iI lr)), (4, .int (iI nl)), (5, .int (iI nr))]) hx hb dL_isHouse_97 hl (by decide) rfl (fun ls hl => ?_)
            refine lv_aload_n hx hb dL_isHouse_99 rfl (lv_at hl 3 rfl) ?_
            refine lv_iload hx hb dL_isHouse_100 (lv_at hl 0 rfl) ?_
            refine lv_iload_n hx hb dL_isHouse_102 rfl (lv_at hl 4 rfl) ?_
            refine x_iast hx hb hK hP hD hS 7 0 rfl rfl (by omega) (by omega) (Nat.le_of_ble_eq_true rfl) dL_isHouse_103 (fun H locs hP hD hS => ?_)
            have hP : va_P (gD g) vwCl [(aR, .inr (11, [.ref aG, .ref aP, .ref aH, .ref aY, .ref aT, .ref aS, .ref aF, .ref aX, .int (iI pr), .int (iI tk), .int (iI tol), .int (iI hou)])), (aG, .inr (4, [.ref aGn, .ref aGw, .ref aGs, .int (iI kn)])), (aH, .inr (5, [.ref aHf, .ref aHl, .ref aHm, .ref aHr, .ref aHp, .int (iI bu)])), (aHf, .inl (gI g, 8, .inl (ar fi))), (aHl, .inl (gI g, 8, .inl (ar la))), (aHm, .inl (gI g, 8, .inl (ar li))), (aHr, .inl (gI g, 8, .inl (ar ra))), (aN, .inl (gI g, 1960, .inl (ar (up F v_9 fr))))] H := hP
            have hD : va_D A [(aR, .inr (11, [.ref aG, .ref aP, .ref aH, .ref aY, .ref aT, .ref aS, .ref aF, .ref aX, .int (iI pr), .int (iI tk), .int (iI tol), .int (iI hou)])), (aG, .inr (4, [.ref aGn, .ref aGw, .ref aGs, .int (iI kn)])), (aH, .inr (5, [.ref aHf, .ref aHl, .ref aHm, .ref aHr, .ref aHp, .int (iI bu)])), (aHf, .inl (gI g, 8, .inl (ar fi))), (aHl, .inl (gI g, 8, .inl (ar la))), (aHm, .inl (gI g, 8, .inl (ar li))), (aHr, .inl (gI g, 8, .inl (ar ra))), (aN, .inl (gI g, 1960, .inl (ar (up F v_9 fr))))] := hD
            refine lv_aload_n hx hb dL_isHouse_104 rfl (lv_at hl 3 rfl) ?_
            refine lv_iload hx hb dL_isHouse_105 (lv_at hl 0 rfl) ?_
            refine x_iconst hx hb dL_isHouse_107 ?_
            refine x_iadd hx hb dL_isHouse_108 ?_
            refine lv_iload_n hx hb dL_isHouse_109 rfl (lv_at hl 5 rfl) ?_
            refine x_iast hx hb hK hP hD hS 7 0 rfl rfl (by omega) (by omega) (Nat.le_of_ble_eq_true rfl) dL_isHouse_110 (fun H locs hP hD hS => ?_)
            have hP : va_P (gD g) vwCl [(aR, .inr (11, [.ref aG, .ref aP, .ref aH, .ref aY, .ref aT, .ref aS, .ref aF, .ref aX, .int (iI pr), .int (iI tk), .int (iI tol), .int (iI hou)])), (aG, .inr (4, [.ref aGn, .ref aGw, .ref aGs, .int (iI kn)])), (aH, .inr (5, [.ref aHf, .ref aHl, .ref aHm, .ref aHr, .ref aHp, .int (iI bu)])), (aHf, .inl (gI g, 8, .inl (ar fi))), (aHl, .inl (gI g, 8, .inl (ar la))), (aHm, .inl (gI g, 8, .inl (ar li))), (aHr, .inl (gI g, 8, .inl (ar ra))), (aN, .inl (gI g, 1960, .inl (ar (up (up F v_9 fr) (v_9 + 1) lr))))] H := hP
            have hD : va_D A [(aR, .inr (11, [.ref aG, .ref aP, .ref aH, .ref aY, .ref aT, .ref aS, .ref aF, .ref aX, .int (iI pr), .int (iI tk), .int (iI tol), .int (iI hou)])), (aG, .inr (4, [.ref aGn, .ref aGw, .ref aGs, .int (iI kn)])), (aH, .inr (5, [.ref aHf, .ref aHl, .ref aHm, .ref aHr, .ref aHp, .int (iI bu)])), (aHf, .inl (gI g, 8, .inl (ar fi))), (aHl, .inl (gI g, 8, .inl (ar la))), (aHm, .inl (gI g, 8, .inl (ar li))), (aHr, .inl (gI g, 8, .inl (ar ra))), (aN, .inl (gI g, 1960, .inl (ar (up (up F v_9 fr) (v_9 + 1) lr))))] := hD
            refine lv_aload_n hx hb dL_isHouse_111 rfl (lv_at hl 3 rfl) ?_
            refine lv_iload hx hb dL_isHouse_112 (lv_at hl 0 rfl) ?_
            refine x_iconst hx hb dL_isHouse_114 ?_
            refine x_iadd hx hb dL_isHouse_115 ?_
            refine lv_iload hx hb dL_isHouse_116 (lv_at hl 6 rfl) ?_
            refine x_iast hx hb hK hP hD hS 7 0 rfl rfl (by omega) (by omega) (Nat.le_of_ble_eq_true rfl) dL_isHouse_118 (fun H locs hP hD hS => ?_)
            have hP : va_P (gD g) vwCl [(aR, .inr (11, [.ref aG, .ref aP, .ref aH, .ref aY, .ref aT, .ref aS, .ref aF, .ref aX, .int (iI pr), .int (iI tk), .int (iI tol), .int (iI hou)])), (aG, .inr (4, [.ref aGn, .ref aGw, .ref aGs, .int (iI kn)])), (aH, .inr (5, [.ref aHf, .ref aHl, .ref aHm, .ref aHr, .ref aHp, .int (iI bu)])), (aHf, .inl (gI g, 8, .inl (ar fi))), (aHl, .inl (gI g, 8, .inl (ar la))), (aHm, .inl (gI g, 8, .inl (ar li))), (aHr, .inl (gI g, 8, .inl (ar ra))), (aN, .inl (gI g, 1960, .inl (ar (up (up (up F v_9 fr) (v_9 + 1) lr) (v_9 + 2) nl))))] H := hP
            have hD : va_D A [(aR, .inr (11, [.ref aG, .ref aP, .ref aH, .ref aY, .ref aT, .ref aS, .ref aF, .ref aX, .int (iI pr), .int (iI tk), .int (iI tol), .int (iI hou)])), (aG, .inr (4, [.ref aGn, .ref aGw, .ref aGs, .int (iI kn)])), (aH, .inr (5, [.ref aHf, .ref aHl, .ref aHm, .ref aHr, .ref aHp, .int (iI bu)])), (aHf, .inl (gI g, 8, .inl (ar fi))), (aHl, .inl (gI g, 8, .inl (ar la))), (aHm, .inl (gI g, 8, .inl (ar li))), (aHr, .inl (gI g, 8, .inl (ar ra))), (aN, .inl (gI g, 1960, .inl (ar (up (up (up F v_9 fr) (v_9 + 1) lr) (v_9 + 2) nl))))] := hD
            refine lv_aload_n hx hb dL_isHouse_119 rfl (lv_at hl 3 rfl) ?_
            refine lv_iload hx hb dL_isHouse_120 (lv_at hl 0 rfl) ?_
            refine x_iconst hx hb dL_isHouse_122 ?_
            refine x_iadd hx hb dL_isHouse_123 ?_
            refine lv_iload hx hb dL_isHouse_124 (lv_at hl 7 rfl) ?_
            refine x_iast hx hb hK hP hD hS 7 0 rfl rfl (by omega) (by omega) (Nat.le_of_ble_eq_true rfl) dL_isHouse_126 (fun H locs hP hD hS => ?_)
            have hP : va_P (gD g) vwCl [(aR, .inr (11, [.ref aG, .ref aP, .ref aH, .ref aY, .ref aT, .ref aS, .ref aF, .ref aX, .int (iI pr), .int (iI tk), .int (iI tol), .int (iI hou)])), (aG, .inr (4, [.ref aGn, .ref aGw, .ref aGs, .int (iI kn)])), (aH, .inr (5, [.ref aHf, .ref aHl, .ref aHm, .ref aHr, .ref aHp, .int (iI bu)])), (aHf, .inl (gI g, 8, .inl (ar fi))), (aHl, .inl (gI g, 8, .inl (ar la))), (aHm, .inl (gI g, 8, .inl (ar li))), (aHr, .inl (gI g, 8, .inl (ar ra))), (aN, .inl (gI g, 1960, .inl (ar (up (up (up (up F v_9 fr) (v_9 + 1) lr) (v_9 + 2) nl) (v_9 + 3) nr))))] H := hP
            have hD : va_D A [(aR, .inr (11, [.ref aG, .ref aP, .ref aH, .ref aY, .ref aT, .ref aS, .ref aF, .ref aX, .int (iI pr), .int (iI tk), .int (iI tol), .int (iI hou)])), (aG, .inr (4, [.ref aGn, .ref aGw, .ref aGs, .int (iI kn)])), (aH, .inr (5, [.ref aHf, .ref aHl, .ref aHm, .ref aHr, .ref aHp, .int (iI bu)])), (aHf, .inl (gI g, 8, .inl (ar fi))), (aHl, .inl (gI g, 8, .inl (ar la))), (aHm, .inl (gI g, 8, .inl (ar li))), (aHr, .inl (gI g, 8, .inl (ar ra))), (aN, .inl (gI g, 1960, .inl (ar (up (up (up (up F v_9 fr) (v_9 + 1) lr) (v_9 + 2) nl) (v_9 + 3) nr))))] := hD
            refine lv_aload_n hx hb dL_isHouse_127 rfl (lv_at hl 3 rfl) ?_
            refine x_iconst hx hb dL_isHouse_128 ?_
            refine lv_dup2_11 hx hb dL_isHouse_129 rfl rfl ?_
            refine x_iald hx hb hK hP 7 0 rfl rfl (by omega) (by omega) (Nat.le_of_ble_eq_true rfl) dL_isHouse_130 (fun v_10 hv_10 => ?_)
            (repeat (first | rw [up_at _ _ (by omega)] at hv_10 | rw [up_ne _ _ (by omega)] at hv_10))
            refine x_top (show v_10 = bu by
                first
                | (
                   omega)
                | fail "q9") ?_
            refine x_iconst hx hb dL_isHouse_131 ?_
            refine x_iadd hx hb dL_isHouse_132 ?_
            obtain ⟨v_11, ev_11⟩ : ∃ z : Int, z = bu + 1 := ⟨_, rfl⟩
            refine x_top ev_11.symm ?_
            refine x_iast hx hb hK hP hD hS 7 0 rfl rfl (by omega) (by omega) (Nat.le_of_ble_eq_true rfl) dL_isHouse_133 (fun H locs hP hD hS => ?_)
            have hP : va_P (gD g) vwCl [(aR, .inr (11, [.ref aG, .ref aP, .ref aH, .ref aY, .ref aT, .ref aS, .ref aF, .ref aX, .int (iI pr), .int (iI tk), .int (iI tol), .int (iI hou)])), (aG, .inr (4, [.ref aGn, .ref aGw, .ref aGs, .int (iI kn)])), (aH, .inr (5, [.ref aHf, .ref aHl, .ref aHm, .ref aHr, .ref aHp, .int (iI bu)])), (aHf, .inl (gI g, 8, .inl (ar fi))), (aHl, .inl (gI g, 8, .inl (ar la))), (aHm, .inl (gI g, 8, .inl (ar li))), (aHr, .inl (gI g, 8, .inl (ar ra))), (aN, .inl (gI g, 1960, .inl (ar (up (up (up (up (up F v_9 fr) (v_9 + 1) lr) (v_9 + 2) nl) (v_9 + 3) nr) 3 v_11))))] H := hP
            have hD : va_D A [(aR, .inr (11, [.ref aG, .ref aP, .ref aH, .ref aY, .ref aT, .ref aS, .ref aF, .ref aX, .int (iI pr), .int (iI tk), .int (iI tol), .int (iI hou)])), (aG, .inr (4, [.ref aGn, .ref aGw, .ref aGs, .int (iI kn)])), (aH, .inr (5, [.ref aHf, .ref aHl, .ref aHm, .ref aHr, .ref aHp, .int (iI bu)])), (aHf, .inl (gI g, 8, .inl (ar fi))), (aHl, .inl (gI g, 8, .inl (ar la))), (aHm, .inl (gI g, 8, .inl (ar li))), (aHr, .inl (gI g, 8, .inl (ar ra))), (aN, .inl (gI g, 1960, .inl (ar (up (up (up (up (up F v_9 fr) (v_9 + 1) lr) (v_9 + 2) nl) (v_9 + 3) nr) 3 v_11))))] := hD
            refine lv_aload_n hx hb dL_isHouse_134 rfl (lv_at hl 2 rfl) ?_
            refine lv_iload_n hx hb dL_isHouse_135 rfl (lv_at hl 4 rfl) ?_
            refine lv_iload_n hx hb dL_isHouse_136 rfl (lv_at hl 5 rfl) ?_
            refine lv_iload hx hb dL_isHouse_137 (lv_at hl 6 rfl) ?_
            refine lv_iload hx hb dL_isHouse_139 (lv_at hl 7 rfl) ?_
            refine x_calli (S := Unit) (wc := [(aR, .inr (11, [.ref aG, .ref aP, .ref aH, .ref aY, .ref aT, .ref aS, .ref aF, .ref aX, .int (iI pr), .int (iI tk), .int (iI tol), .int (iI hou)])), (aG, .inr (4, [.ref aGn, .ref aGw, .ref aGs, .int (iI kn)])), (aH, .inr (5, [.ref aHf, .ref aHl, .ref aHm, .ref aHr, .ref aHp, .int (iI bu)])), (aHf, .inl (gI g, 8, .inl (ar fi))), (aHl, .inl (gI g, 8, .inl (ar la))), (aHm, .inl (gI g, 8, .inl (ar li))), (aHr, .inl (gI g, 8, .inl (ar ra)))]) (wr := [(aN, .inl (gI g, 1960, .inl (ar (up (up (up (up (up F v_9 fr) (v_9 + 1) lr) (v_9 + 2) nl) (v_9 + 3) nr) 3 v_11))))]) hC hP hD hS hA [0, 1, 2, 3, 4, 5, 6] [7] [1, 2, 3, 4, 5, 6, 7, 0] rfl rfl (fun hpre => vx_runSW (As := [.ref aR, .int (iI fr), .int (iI lr), .int (iI nl), .int (iI nr)]) (rest := []) ⟨hx, hb, hml, hown, hts⟩ (c_L_addHouse l hflags g H.size aR aG aP aH aY aT aS aF aX aGn aGw aGs aHf aHl aHm aHr aHp pr tk tol hou kn bu fr lr nl nr fi la li ra (by first | (first | assumption | omega | exact bnd_up (by assumption) (by omega) (by omega)) | fail "q8") (by first | (first | assumption | omega | exact bnd_up (by assumption) (by omega) (by omega)) | fail "q8") (by first | (first | assumption | omega | exact bnd_up (by assumption) (by omega) (by omega)) | fail "q8") (by first | (first | assumption | omega | exact bnd_up (by assumption) (by omega) (by omega)) | fail "q8") (by first | (first | assumption | omega | exact bnd_up (by assumption) (by omega) (by omega)) | fail "q8") (by first | (first | assumption | omega | exact bnd_up (by assumption) (by omega) (by omega)) | fail "q8")) (vx_cwSW 5 hts gL_isHouse_L_addHouse rfl rfl rfl (by decide +kernel) ⟨Nat.le_of_ble_eq_true rfl, Nat.le_of_ble_eq_true rfl⟩) ⟨xB_blind, hpre _⟩ rfl rfl hl.1 rfl (lv_room (Nat.le_of_ble_eq_true rfl)) dL_isHouse_141 ⟨Nat.le_of_ble_eq_true rfl, Nat.le_of_ble_eq_true rfl⟩) (fun (u : Unit) => [(aR, .inr (11, [.ref aG, .ref aP, .ref aH, .ref aY, .ref aT, .ref aS, .ref aF, .ref aX, .int (iI pr), .int (iI tk), .int (iI tol), .int (iI hou)])), (aG, .inr (4, [.ref aGn, .ref aGw, .ref aGs, .int (iI kn)])), (aH, .inr (5, [.ref aHf, .ref aHl, .ref aHm, .ref aHr, .ref aHp, .int (iI (if ahT kn bu fr lr nl nr = 0 then (bu + 1) else bu))])), (aHf, .inl (gI g, 8, .inl (ar (if ahT kn bu fr lr nl nr = 0 then (up fi bu fr) else fi)))), (aHl, .inl (gI g, 8, .inl (ar (if ahT kn bu fr lr nl nr = 0 then (up la bu lr) else la)))), (aHm, .inl (gI g, 8, .inl (ar (if ahT kn bu fr lr nl nr = 0 then (up li bu nl) else li)))), (aHr, .inl (gI g, 8, .inl (ar (if ahT kn bu fr lr nl nr = 0 then (up ra bu nr) else ra)))), (aN, .inl (gI g, 1960, .inl (ar (up (up (up (up (up F v_9 fr) (v_9 + 1) lr) (v_9 + 2) nl) (v_9 + 3) nr) 3 v_11))))]) rfl rfl (by decide) (fun _ => rfl) rfl (fun u v_12 H locs hv_12 pv_12 hP hD hS => ?_)
            have hP : va_P (gD g) vwCl [(aR, .inr (11, [.ref aG, .ref aP, .ref aH, .ref aY, .ref aT, .ref aS, .ref aF, .ref aX, .int (iI pr), .int (iI tk), .int (iI tol), .int (iI hou)])), (aG, .inr (4, [.ref aGn, .ref aGw, .ref aGs, .int (iI kn)])), (aH, .inr (5, [.ref aHf, .ref aHl, .ref aHm, .ref aHr, .ref aHp, .int (iI (if ahT kn bu fr lr nl nr = 0 then (bu + 1) else bu))])), (aHf, .inl (gI g, 8, .inl (ar (if ahT kn bu fr lr nl nr = 0 then (up fi bu fr) else fi)))), (aHl, .inl (gI g, 8, .inl (ar (if ahT kn bu fr lr nl nr = 0 then (up la bu lr) else la)))), (aHm, .inl (gI g, 8, .inl (ar (if ahT kn bu fr lr nl nr = 0 then (up li bu nl) else li)))), (aHr, .inl (gI g, 8, .inl (ar (if ahT kn bu fr lr nl nr = 0 then (up ra bu nr) else ra)))), (aN, .inl (gI g, 1960, .inl (ar (up (up (up (up (up F v_9 fr) (v_9 + 1) lr) (v_9 + 2) nl) (v_9 + 3) nr) 3 v_11))))] H := hP
            have hD : va_D A [(aR, .inr (11, [.ref aG, .ref aP, .ref aH, .ref aY, .ref aT, .ref aS, .ref aF, .ref aX, .int (iI pr), .int (iI tk), .int (iI tol), .int (iI hou)])), (aG, .inr (4, [.ref aGn, .ref aGw, .ref aGs, .int (iI kn)])), (aH, .inr (5, [.ref aHf, .ref aHl, .ref aHm, .ref aHr, .ref aHp, .int (iI (if ahT kn bu fr lr nl nr = 0 then (bu + 1) else bu))])), (aHf, .inl (gI g, 8, .inl (ar (if ahT kn bu fr lr nl nr = 0 then (up fi bu fr) else fi)))), (aHl, .inl (gI g, 8, .inl (ar (if ahT kn bu fr lr nl nr = 0 then (up la bu lr) else la)))), (aHm, .inl (gI g, 8, .inl (ar (if ahT kn bu fr lr nl nr = 0 then (up li bu nl) else li)))), (aHr, .inl (gI g, 8, .inl (ar (if ahT kn bu fr lr nl nr = 0 then (up ra bu nr) else ra)))), (aN, .inl (gI g, 1960, .inl (ar (up (up (up (up (up F v_9 fr) (v_9 + 1) lr) (v_9 + 2) nl) (v_9 + 3) nr) 3 v_11))))] := hD
            have hv_12 : v_12 = (if ahT kn bu fr lr nl nr = 0 then bu else -900000 - ahT kn bu fr lr nl nr) := hv_12
            refine lv_aload_n hx hb dL_isHouse_144 rfl (lv_at hl 3 rfl) ?_
            refine x_iconst hx hb dL_isHouse_145 ?_
            refine x_iald hx hb hK hP 7 0 rfl rfl (by omega) (by omega) (Nat.le_of_ble_eq_true rfl) dL_isHouse_146 (fun v_13 hv_13 => ?_)
            (repeat (first | rw [up_at _ _ (by omega)] at hv_13 | rw [up_ne _ _ (by omega)] at hv_13))
            refine x_top (show v_13 = bu + 1 by
                first
                | (
                   omega)
                | fail "q9") ?_
            refine x_iconst hx hb dL_isHouse_147 ?_
            refine x_isub hx hb dL_isHouse_148 ?_
            refine x_cmp_ne (tgt := 156) hx hb (by omega) (by omega) dL_isHouse_149 (by decide) (fun c_14 => ?_) (fun c_14 => ?_)
            · skip
              exfalso
              first
              | (
                 omega)
              | fail "q9"
            · skip
              refine x_iconst hx hb dL_isHouse_152 ?_
              refine lv_goto (tgt := 157) hx hb dL_isHouse_153 (by decide) ?_
              have q_15 : (up (up (up (up (up F v_9 fr) (v_9 + 1) lr) (v_9 + 2) nl) (v_9 + 3) nr) 3 v_11) = (up (up (up (up (up F v_9 fr) (v_9 + 1) lr) (v_9 + 2) nl) (v_9 + 3) nr) 3 v_11) := by
                first
                | (
                   first | rfl | omega | (subst_vars; first | rfl | omega))
                | fail "q9"
              have hw_16 := (congrArg (fun (z0 : Int → Int) => ([(aR, .inr (11, [.ref aG, .ref aP, .ref aH, .ref aY, .ref aT, .ref aS, .ref aF, .ref aX, .int (iI pr), .int (iI tk), .int (iI tol), .int (iI hou)])), (aG, .inr (4, [.ref aGn, .ref aGw, .ref aGs, .int (iI kn)])), (aH, .inr (5, [.ref aHf, .ref aHl, .ref aHm, .ref aHr, .ref aHp, .int (iI (if ahT kn bu fr lr nl nr = 0 then (bu + 1) else bu))])), (aHf, .inl (gI g, 8, .inl (ar (if ahT kn bu fr lr nl nr = 0 then (up fi bu fr) else fi)))), (aHl, .inl (gI g, 8, .inl (ar (if ahT kn bu fr lr nl nr = 0 then (up la bu lr) else la)))), (aHm, .inl (gI g, 8, .inl (ar (if ahT kn bu fr lr nl nr = 0 then (up li bu nl) else li)))), (aHr, .inl (gI g, 8, .inl (ar (if ahT kn bu fr lr nl nr = 0 then (up ra bu nr) else ra)))), (aN, .inl (gI g, 1960, .inl (ar z0)))] : va_W)) q_15.symm)
              rw [hQ9]
              exact x_iret hx hb hr hlocks hP hD hS (S := (Int → Int)) (by decide) dL_isHouse_157 (up (up (up (up (up F v_9 fr) (v_9 + 1) lr) (v_9 + 2) nl) (v_9 + 3) nr) 3 v_11) (by
                  first
                  | (
                     exact (bI_t True.intro).symm)
                  | fail "q9") (by
                  first
                  | (
                     first | (rw [if_pos hT]; intro j hj; by_cases qj : j = 3; (rw [qj, up_at _ _ rfl, up_eq]; omega); (rw [up_ne _ _ qj]; (repeat (first | rw [up_at _ _ (by omega)] | rw [up_ne _ _ (by omega)])); done)) | (rw [if_neg (by omega)]; exact agr_r _))
                  | fail "q9") hw_16 (Nat.le_of_ble_eq_true rfl) (Nat.le_of_ble_eq_true rfl)
          · skip
            have hT : ahT kn bu fr lr nl nr = 3 := by unfold ahT; omega
            refine lv_aload_n hx hb dL_isHouse_67 rfl (lv_at hl 1 rfl) ?_
            refine lv_iload_n hx hb dL_isHouse_68 rfl (lv_at hl 3 rfl) ?_
            refine lv_iload_n hx hb dL_isHouse_69 rfl (lv_at hl 4 rfl) ?_
            refine lv_iload hx hb dL_isHouse_70 (lv_at hl 5 rfl) ?_
            refine lv_iload hx hb dL_isHouse_72 (lv_at hl 6 rfl) ?_
            refine x_calli (S := Unit) (wc := [(aR, .inr (11, [.ref aG, .ref aP, .ref aH, .ref aY, .ref aT, .ref aS, .ref aF, .ref aX, .int (iI pr), .int (iI tk), .int (iI tol), .int (iI hou)])), (aG, .inr (4, [.ref aGn, .ref aGw, .ref aGs, .int (iI kn)])), (aH, .inr (5, [.ref aHf, .ref aHl, .ref aHm, .ref aHr, .ref aHp, .int (iI bu)])), (aHf, .inl (gI g, 8, .inl (ar fi))), (aHl, .inl (gI g, 8, .inl (ar la))), (aHm, .inl (gI g, 8, .inl (ar li))), (aHr, .inl (gI g, 8, .inl (ar ra)))]) (wr := [(aN, .inl (gI g, 1960, .inl (ar F)))]) hC hP hD hS hA [0, 1, 2, 3, 4, 5, 6] [7] [1, 2, 3, 4, 5, 6, 7, 0] rfl rfl (fun hpre => vx_runSW (As := [.ref aR, .int (iI fr), .int (iI lr), .int (iI nl), .int (iI nr)]) (rest := []) ⟨hx, hb, hml, hown, hts⟩ (c_L_addHouse l hflags g H.size aR aG aP aH aY aT aS aF aX aGn aGw aGs aHf aHl aHm aHr aHp pr tk tol hou kn bu fr lr nl nr fi la li ra (by first | (first | assumption | omega | exact bnd_up (by assumption) (by omega) (by omega)) | fail "q8") (by first | (first | assumption | omega | exact bnd_up (by assumption) (by omega) (by omega)) | fail "q8") (by first | (first | assumption | omega | exact bnd_up (by assumption) (by omega) (by omega)) | fail "q8") (by first | (first | assumption | omega | exact bnd_up (by assumption) (by omega) (by omega)) | fail "q8") (by first | (first | assumption | omega | exact bnd_up (by assumption) (by omega) (by omega)) | fail "q8") (by first | (first | assumption | omega | exact bnd_up (by assumption) (by omega) (by omega)) | fail "q8")) (vx_cwSW 5 hts gL_isHouse_L_addHouse rfl rfl rfl (by decide +kernel) ⟨Nat.le_of_ble_eq_true rfl, Nat.le_of_ble_eq_true rfl⟩) ⟨xB_blind, hpre _⟩ rfl rfl hl.1 rfl (lv_room (Nat.le_of_ble_eq_true rfl)) dL_isHouse_74 ⟨Nat.le_of_ble_eq_true rfl, Nat.le_of_ble_eq_true rfl⟩) (fun (u : Unit) => [(aR, .inr (11, [.ref aG, .ref aP, .ref aH, .ref aY, .ref aT, .ref aS, .ref aF, .ref aX, .int (iI pr), .int (iI tk), .int (iI tol), .int (iI hou)])), (aG, .inr (4, [.ref aGn, .ref aGw, .ref aGs, .int (iI kn)])), (aH, .inr (5, [.ref aHf, .ref aHl, .ref aHm, .ref aHr, .ref aHp, .int (iI (if ahT kn bu fr lr nl nr = 0 then (bu + 1) else bu))])), (aHf, .inl (gI g, 8, .inl (ar (if ahT kn bu fr lr nl nr = 0 then (up fi bu fr) else fi)))), (aHl, .inl (gI g, 8, .inl (ar (if ahT kn bu fr lr nl nr = 0 then (up la bu lr) else la)))), (aHm, .inl (gI g, 8, .inl (ar (if ahT kn bu fr lr nl nr = 0 then (up li bu nl) else li)))), (aHr, .inl (gI g, 8, .inl (ar (if ahT kn bu fr lr nl nr = 0 then (up ra bu nr) else ra)))), (aN, .inl (gI g, 1960, .inl (ar F)))]) rfl rfl (by decide) (fun _ => rfl) rfl (fun u v_17 H locs hv_17 pv_17 hP hD hS => ?_)
            have hP : va_P (gD g) vwCl [(aR, .inr (11, [.ref aG, .ref aP, .ref aH, .ref aY, .ref aT, .ref aS, .ref aF, .ref aX, .int (iI pr), .int (iI tk), .int (iI tol), .int (iI hou)])), (aG, .inr (4, [.ref aGn, .ref aGw, .ref aGs, .int (iI kn)])), (aH, .inr (5, [.ref aHf, .ref aHl, .ref aHm, .ref aHr, .ref aHp, .int (iI (if ahT kn bu fr lr nl nr = 0 then (bu + 1) else bu))])), (aHf, .inl (gI g, 8, .inl (ar (if ahT kn bu fr lr nl nr = 0 then (up fi bu fr) else fi)))), (aHl, .inl (gI g, 8, .inl (ar (if ahT kn bu fr lr nl nr = 0 then (up la bu lr) else la)))), (aHm, .inl (gI g, 8, .inl (ar (if ahT kn bu fr lr nl nr = 0 then (up li bu nl) else li)))), (aHr, .inl (gI g, 8, .inl (ar (if ahT kn bu fr lr nl nr = 0 then (up ra bu nr) else ra)))), (aN, .inl (gI g, 1960, .inl (ar F)))] H := hP
            have hD : va_D A [(aR, .inr (11, [.ref aG, .ref aP, .ref aH, .ref aY, .ref aT, .ref aS, .ref aF, .ref aX, .int (iI pr), .int (iI tk), .int (iI tol), .int (iI hou)])), (aG, .inr (4, [.ref aGn, .ref aGw, .ref aGs, .int (iI kn)])), (aH, .inr (5, [.ref aHf, .ref aHl, .ref aHm, .ref aHr, .ref aHp, .int (iI (if ahT kn bu fr lr nl nr = 0 then (bu + 1) else bu))])), (aHf, .inl (gI g, 8, .inl (ar (if ahT kn bu fr lr nl nr = 0 then (up fi bu fr) else fi)))), (aHl, .inl (gI g, 8, .inl (ar (if ahT kn bu fr lr nl nr = 0 then (up la bu lr) else la)))), (aHm, .inl (gI g, 8, .inl (ar (if ahT kn bu fr lr nl nr = 0 then (up li bu nl) else li)))), (aHr, .inl (gI g, 8, .inl (ar (if ahT kn bu fr lr nl nr = 0 then (up ra bu nr) else ra)))), (aN, .inl (gI g, 1960, .inl (ar F)))] := hD
            have hv_17 : v_17 = (if ahT kn bu fr lr nl nr = 0 then bu else -900000 - ahT kn bu fr lr nl nr) := hv_17
            refine x_ldc (v := -900003) hx hb hown (hts (.constant RL 30 (-900003)) (List.mem_of_getElem? (i := 7) rfl)) (by decide) dL_isHouse_77 ?_
            refine x_cmp_ne (tgt := 86) hx hb (by omega) (by omega) dL_isHouse_79 (by decide) (fun c_18 => ?_) (fun c_18 => ?_)
            · skip
              exfalso
              first
              | (
                 omega)
              | fail "q9"
            · skip
              refine x_iconst hx hb dL_isHouse_82 ?_
              refine lv_goto (tgt := 87) hx hb dL_isHouse_83 (by decide) ?_
              rw [hQ9]
              exact x_iret hx hb hr hlocks hP hD hS (S := (Int → Int)) (by decide) dL_isHouse_87 F (by
                  first
                  | (
                     exact (bI_t True.intro).symm)
                  | fail "q9") (by
                  first
                  | (
                     first | (rw [if_pos hT]; intro j hj; by_cases qj : j = 3; (rw [qj, up_at _ _ rfl, up_eq]; omega); (rw [up_ne _ _ qj]; (repeat (first | rw [up_at _ _ (by omega)] | rw [up_ne _ _ (by omega)])); done)) | (rw [if_neg (by omega)]; exact agr_r _))
                  | fail "q9") rfl (Nat.le_of_ble_eq_true rfl) (Nat.le_of_ble_eq_true rfl)
        · skip
          refine lv_aload_n hx hb dL_isHouse_28 rfl (lv_at hl 1 rfl) ?_
          refine lv_iload_n hx hb dL_isHouse_29 rfl (lv_at hl 3 rfl) ?_
          refine lv_iload_n hx hb dL_isHouse_30 rfl (lv_at hl 4 rfl) ?_
          refine lv_iload hx hb dL_isHouse_31 (lv_at hl 5 rfl) ?_
          refine lv_iload hx hb dL_isHouse_33 (lv_at hl 6 rfl) ?_
          refine x_calli (S := Unit) (wc := [(aR, .inr (11, [.ref aG, .ref aP, .ref aH, .ref aY, .ref aT, .ref aS, .ref aF, .ref aX, .int (iI pr), .int (iI tk), .int (iI tol), .int (iI hou)])), (aG, .inr (4, [.ref aGn, .ref aGw, .ref aGs, .int (iI kn)])), (aH, .inr (5, [.ref aHf, .ref aHl, .ref aHm, .ref aHr, .ref aHp, .int (iI bu)])), (aHf, .inl (gI g, 8, .inl (ar fi))), (aHl, .inl (gI g, 8, .inl (ar la))), (aHm, .inl (gI g, 8, .inl (ar li))), (aHr, .inl (gI g, 8, .inl (ar ra)))]) (wr := [(aN, .inl (gI g, 1960, .inl (ar F)))]) hC hP hD hS hA [0, 1, 2, 3, 4, 5, 6] [7] [1, 2, 3, 4, 5, 6, 7, 0] rfl rfl (fun hpre => vx_runSW (As := [.ref aR, .int (iI fr), .int (iI lr), .int (iI nl), .int (iI nr)]) (rest := []) ⟨hx, hb, hml, hown, hts⟩ (c_L_addHouse l hflags g H.size aR aG aP aH aY aT aS aF aX aGn aGw aGs aHf aHl aHm aHr aHp pr tk tol hou kn bu fr lr nl nr fi la li ra (by first | (first | assumption | omega | exact bnd_up (by assumption) (by omega) (by omega)) | fail "q8") (by first | (first | assumption | omega | exact bnd_up (by assumption) (by omega) (by omega)) | fail "q8") (by first | (first | assumption | omega | exact bnd_up (by assumption) (by omega) (by omega)) | fail "q8") (by first | (first | assumption | omega | exact bnd_up (by assumption) (by omega) (by omega)) | fail "q8") (by first | (first | assumption | omega | exact bnd_up (by assumption) (by omega) (by omega)) | fail "q8") (by first | (first | assumption | omega | exact bnd_up (by assumption) (by omega) (by omega)) | fail "q8")) (vx_cwSW 5 hts gL_isHouse_L_addHouse rfl rfl rfl (by decide +kernel) ⟨Nat.le_of_ble_eq_true rfl, Nat.le_of_ble_eq_true rfl⟩) ⟨xB_blind, hpre _⟩ rfl rfl hl.1 rfl (lv_room (Nat.le_of_ble_eq_true rfl)) dL_isHouse_35 ⟨Nat.le_of_ble_eq_true rfl, Nat.le_of_ble_eq_true rfl⟩) (fun (u : Unit) => [(aR, .inr (11, [.ref aG, .ref aP, .ref aH, .ref aY, .ref aT, .ref aS, .ref aF, .ref aX, .int (iI pr), .int (iI tk), .int (iI tol), .int (iI hou)])), (aG, .inr (4, [.ref aGn, .ref aGw, .ref aGs, .int (iI kn)])), (aH, .inr (5, [.ref aHf, .ref aHl, .ref aHm, .ref aHr, .ref aHp, .int (iI (if ahT kn bu fr lr nl nr = 0 then (bu + 1) else bu))])), (aHf, .inl (gI g, 8, .inl (ar (if ahT kn bu fr lr nl nr = 0 then (up fi bu fr) else fi)))), (aHl, .inl (gI g, 8, .inl (ar (if ahT kn bu fr lr nl nr = 0 then (up la bu lr) else la)))), (aHm, .inl (gI g, 8, .inl (ar (if ahT kn bu fr lr nl nr = 0 then (up li bu nl) else li)))), (aHr, .inl (gI g, 8, .inl (ar (if ahT kn bu fr lr nl nr = 0 then (up ra bu nr) else ra)))), (aN, .inl (gI g, 1960, .inl (ar F)))]) rfl rfl (by decide) (fun _ => rfl) rfl (fun u v_19 H locs hv_19 pv_19 hP hD hS => ?_)
          have hP : va_P (gD g) vwCl [(aR, .inr (11, [.ref aG, .ref aP, .ref aH, .ref aY, .ref aT, .ref aS, .ref aF, .ref aX, .int (iI pr), .int (iI tk), .int (iI tol), .int (iI hou)])), (aG, .inr (4, [.ref aGn, .ref aGw, .ref aGs, .int (iI kn)])), (aH, .inr (5, [.ref aHf, .ref aHl, .ref aHm, .ref aHr, .ref aHp, .int (iI (if ahT kn bu fr lr nl nr = 0 then (bu + 1) else bu))])), (aHf, .inl (gI g, 8, .inl (ar (if ahT kn bu fr lr nl nr = 0 then (up fi bu fr) else fi)))), (aHl, .inl (gI g, 8, .inl (ar (if ahT kn bu fr lr nl nr = 0 then (up la bu lr) else la)))), (aHm, .inl (gI g, 8, .inl (ar (if ahT kn bu fr lr nl nr = 0 then (up li bu nl) else li)))), (aHr, .inl (gI g, 8, .inl (ar (if ahT kn bu fr lr nl nr = 0 then (up ra bu nr) else ra)))), (aN, .inl (gI g, 1960, .inl (ar F)))] H := hP
          have hD : va_D A [(aR, .inr (11, [.ref aG, .ref aP, .ref aH, .ref aY, .ref aT, .ref aS, .ref aF, .ref aX, .int (iI pr), .int (iI tk), .int (iI tol), .int (iI hou)])), (aG, .inr (4, [.ref aGn, .ref aGw, .ref aGs, .int (iI kn)])), (aH, .inr (5, [.ref aHf, .ref aHl, .ref aHm, .ref aHr, .ref aHp, .int (iI (if ahT kn bu fr lr nl nr = 0 then (bu + 1) else bu))])), (aHf, .inl (gI g, 8, .inl (ar (if ahT kn bu fr lr nl nr = 0 then (up fi bu fr) else fi)))), (aHl, .inl (gI g, 8, .inl (ar (if ahT kn bu fr lr nl nr = 0 then (up la bu lr) else la)))), (aHm, .inl (gI g, 8, .inl (ar (if ahT kn bu fr lr nl nr = 0 then (up li bu nl) else li)))), (aHr, .inl (gI g, 8, .inl (ar (if ahT kn bu fr lr nl nr = 0 then (up ra bu nr) else ra)))), (aN, .inl (gI g, 1960, .inl (ar F)))] := hD
          have hv_19 : v_19 = (if ahT kn bu fr lr nl nr = 0 then bu else -900000 - ahT kn bu fr lr nl nr) := hv_19
          have hT : ahT kn bu fr lr nl nr = (if kn ≤ fr ∨ kn ≤ lr then 1 else 2) := by unfold ahT; omega
          refine lv_iload hx hb dL_isHouse_38 (lv_at hl 0 rfl) ?_
          refine x_if_eq (tgt := 48) hx hb (by omega) dL_isHouse_40 (by decide) (fun c_20 => ?_) (fun c_20 => ?_)
          · skip
            refine x_ldc (v := -900002) hx hb hown (hts (.constant RL 20 (-900002)) (List.mem_of_getElem? (i := 6) rfl)) (by decide) dL_isHouse_48 ?_
            refine x_cmp_ne (tgt := 57) hx hb (by omega) (by omega) dL_isHouse_50 (by decide) (fun c_21 => ?_) (fun c_21 => ?_)
            · skip
              exfalso
              first
              | (
                 omega)
              | fail "q9"
            · skip
              refine x_iconst hx hb dL_isHouse_53 ?_
              refine lv_goto (tgt := 58) hx hb dL_isHouse_54 (by decide) ?_
              rw [hQ9]
              exact x_iret hx hb hr hlocks hP hD hS (S := (Int → Int)) (by decide) dL_isHouse_58 F (by
                  first
                  | (
                     exact (bI_t True.intro).symm)
                  | fail "q9") (by
                  first
                  | (
                     first | (rw [if_pos hT]; intro j hj; by_cases qj : j = 3; (rw [qj, up_at _ _ rfl, up_eq]; omega); (rw [up_ne _ _ qj]; (repeat (first | rw [up_at _ _ (by omega)] | rw [up_ne _ _ (by omega)])); done)) | (rw [if_neg (by omega)]; exact agr_r _))
                  | fail "q9") rfl (Nat.le_of_ble_eq_true rfl) (Nat.le_of_ble_eq_true rfl)
          · skip
            exact absurd c_20 (by decide)
    · skip
      refine x_iconst hx hb dL_isHouse_11 ?_
      refine lv_goto (tgt := 16) hx hb dL_isHouse_12 (by decide) ?_
      refine lv_istore (lv' := [(6, .int (iI 1)), (0, .ref aR), (1, .ref aN), (2, .int (iI fr)), (3, .int (iI lr)), (4, .int (iI nl)), (5, .int (iI nr))]) hx hb dL_isHouse_16 hl (by decide) rfl (fun ls hl => ?_)
      refine lv_iload hx hb dL_isHouse_18 (lv_at hl 0 rfl) ?_
      refine x_if_ne (tgt := 28) hx hb (by omega) dL_isHouse_20 (by decide) (fun c_22 => ?_) (fun c_22 => ?_)
      · skip
        refine lv_aload_n hx hb dL_isHouse_28 rfl (lv_at hl 1 rfl) ?_
        refine lv_iload_n hx hb dL_isHouse_29 rfl (lv_at hl 3 rfl) ?_
        refine lv_iload_n hx hb dL_isHouse_30 rfl (lv_at hl 4 rfl) ?_
        refine lv_iload hx hb dL_isHouse_31 (lv_at hl 5 rfl) ?_
        refine lv_iload hx hb dL_isHouse_33 (lv_at hl 6 rfl) ?_
        refine x_calli (S := Unit) (wc := [(aR, .inr (11, [.ref aG, .ref aP, .ref aH, .ref aY, .ref aT, .ref aS, .ref aF, .ref aX, .int (iI pr), .int (iI tk), .int (iI tol), .int (iI hou)])), (aG, .inr (4, [.ref aGn, .ref aGw, .ref aGs, .int (iI kn)])), (aH, .inr (5, [.ref aHf, .ref aHl, .ref aHm, .ref aHr, .ref aHp, .int (iI bu)])), (aHf, .inl (gI g, 8, .inl (ar fi))), (aHl, .inl (gI g, 8, .inl (ar la))), (aHm, .inl (gI g, 8, .inl (ar li))), (aHr, .inl (gI g, 8, .inl (ar ra)))]) (wr := [(aN, .inl (gI g, 1960, .inl (ar F)))]) hC hP hD hS hA [0, 1, 2, 3, 4, 5, 6] [7] [1, 2, 3, 4, 5, 6, 7, 0] rfl rfl (fun hpre => vx_runSW (As := [.ref aR, .int (iI fr), .int (iI lr), .int (iI nl), .int (iI nr)]) (rest := []) ⟨hx, hb, hml, hown, hts⟩ (c_L_addHouse l hflags g H.size aR aG aP aH aY aT aS aF aX aGn aGw aGs aHf aHl aHm aHr aHp pr tk tol hou kn bu fr lr nl nr fi la li ra (by first | (first | assumption | omega | exact bnd_up (by assumption) (by omega) (by omega)) | fail "q8") (by first | (first | assumption | omega | exact bnd_up (by assumption) (by omega) (by omega)) | fail "q8") (by first | (first | assumption | omega | exact bnd_up (by assumption) (by omega) (by omega)) | fail "q8") (by first | (first | assumption | omega | exact bnd_up (by assumption) (by omega) (by omega)) | fail "q8") (by first | (first | assumption | omega | exact bnd_up (by assumption) (by omega) (by omega)) | fail "q8") (by first | (first | assumption | omega | exact bnd_up (by assumption) (by omega) (by omega)) | fail "q8")) (vx_cwSW 5 hts gL_isHouse_L_addHouse rfl rfl rfl (by decide +kernel) ⟨Nat.le_of_ble_eq_true rfl, Nat.le_of_ble_eq_true rfl⟩) ⟨xB_blind, hpre _⟩ rfl rfl hl.1 rfl (lv_room (Nat.le_of_ble_eq_true rfl)) dL_isHouse_35 ⟨Nat.le_of_ble_eq_true rfl, Nat.le_of_ble_eq_true rfl⟩) (fun (u : Unit) => [(aR, .inr (11, [.ref aG, .ref aP, .ref aH, .ref aY, .ref aT, .ref aS, .ref aF, .ref aX, .int (iI pr), .int (iI tk), .int (iI tol), .int (iI hou)])), (aG, .inr (4, [.ref aGn, .ref aGw, .ref aGs, .int (iI kn)])), (aH, .inr (5, [.ref aHf, .ref aHl, .ref aHm, .ref aHr, .ref aHp, .int (iI (if ahT kn bu fr lr nl nr = 0 then (bu + 1) else bu))])), (aHf, .inl (gI g, 8, .inl (ar (if ahT kn bu fr lr nl nr = 0 then (up fi bu fr) else fi)))), (aHl, .inl (gI g, 8, .inl (ar (if ahT kn bu fr lr nl nr = 0 then (up la bu lr) else la)))), (aHm, .inl (gI g, 8, .inl (ar (if ahT kn bu fr lr nl nr = 0 then (up li bu nl) else li)))), (aHr, .inl (gI g, 8, .inl (ar (if ahT kn bu fr lr nl nr = 0 then (up ra bu nr) else ra)))), (aN, .inl (gI g, 1960, .inl (ar F)))]) rfl rfl (by decide) (fun _ => rfl) rfl (fun u v_23 H locs hv_23 pv_23 hP hD hS => ?_)
        have hP : va_P (gD g) vwCl [(aR, .inr (11, [.ref aG, .ref aP, .ref aH, .ref aY, .ref aT, .ref aS, .ref aF, .ref aX, .int (iI pr), .int (iI tk), .int (iI tol), .int (iI hou)])), (aG, .inr (4, [.ref aGn, .ref aGw, .ref aGs, .int (iI kn)])), (aH, .inr (5, [.ref aHf, .ref aHl, .ref aHm, .ref aHr, .ref aHp, .int (iI (if ahT kn bu fr lr nl nr = 0 then (bu + 1) else bu))])), (aHf, .inl (gI g, 8, .inl (ar (if ahT kn bu fr lr nl nr = 0 then (up fi bu fr) else fi)))), (aHl, .inl (gI g, 8, .inl (ar (if ahT kn bu fr lr nl nr = 0 then (up la bu lr) else la)))), (aHm, .inl (gI g, 8, .inl (ar (if ahT kn bu fr lr nl nr = 0 then (up li bu nl) else li)))), (aHr, .inl (gI g, 8, .inl (ar (if ahT kn bu fr lr nl nr = 0 then (up ra bu nr) else ra)))), (aN, .inl (gI g, 1960, .inl (ar F)))] H := hP
        have hD : va_D A [(aR, .inr (11, [.ref aG, .ref aP, .ref aH, .ref aY, .ref aT, .ref aS, .ref aF, .ref aX, .int (iI pr), .int (iI tk), .int (iI tol), .int (iI hou)])), (aG, .inr (4, [.ref aGn, .ref aGw, .ref aGs, .int (iI kn)])), (aH, .inr (5, [.ref aHf, .ref aHl, .ref aHm, .ref aHr, .ref aHp, .int (iI (if ahT kn bu fr lr nl nr = 0 then (bu + 1) else bu))])), (aHf, .inl (gI g, 8, .inl (ar (if ahT kn bu fr lr nl nr = 0 then (up fi bu fr) else fi)))), (aHl, .inl (gI g, 8, .inl (ar (if ahT kn bu fr lr nl nr = 0 then (up la bu lr) else la)))), (aHm, .inl (gI g, 8, .inl (ar (if ahT kn bu fr lr nl nr = 0 then (up li bu nl) else li)))), (aHr, .inl (gI g, 8, .inl (ar (if ahT kn bu fr lr nl nr = 0 then (up ra bu nr) else ra)))), (aN, .inl (gI g, 1960, .inl (ar F)))] := hD
        have hv_23 : v_23 = (if ahT kn bu fr lr nl nr = 0 then bu else -900000 - ahT kn bu fr lr nl nr) := hv_23
        have hT : ahT kn bu fr lr nl nr = (if kn ≤ fr ∨ kn ≤ lr then 1 else 2) := by unfold ahT; omega
        refine lv_iload hx hb dL_isHouse_38 (lv_at hl 0 rfl) ?_
        refine x_if_eq (tgt := 48) hx hb (by omega) dL_isHouse_40 (by decide) (fun c_24 => ?_) (fun c_24 => ?_)
        · skip
          exact absurd c_24 (by decide)
        · skip
          refine x_ldc (v := -900001) hx hb hown (hts (.constant RL 17 (-900001)) (List.mem_of_getElem? (i := 5) rfl)) (by decide) dL_isHouse_43 ?_
          refine lv_goto (tgt := 50) hx hb dL_isHouse_45 (by decide) ?_
          refine x_cmp_ne (tgt := 57) hx hb (by omega) (by omega) dL_isHouse_50 (by decide) (fun c_25 => ?_) (fun c_25 => ?_)
          · skip
            exfalso
            first
            | (
               omega)
            | fail "q9"
          · skip
            refine x_iconst hx hb dL_isHouse_53 ?_
            refine lv_goto (tgt := 58) hx hb dL_isHouse_54 (by decide) ?_
            rw [hQ9]
            exact x_iret hx hb hr hlocks hP hD hS (S := (Int → Int)) (by decide) dL_isHouse_58 F (by
                first
                | (
                   exact (bI_t True.intro).symm)
                | fail "q9") (by
                first
                | (
                   first | (rw [if_pos hT]; intro j hj; by_cases qj : j = 3; (rw [qj, up_at _ _ rfl, up_eq]; omega); (rw [up_ne _ _ qj]; (repeat (first | rw [up_at _ _ (by omega)] | rw [up_ne _ _ (by omega)])); done)) | (rw [if_neg (by omega)]; exact agr_r _))
                | fail "q9") rfl (Nat.le_of_ble_eq_true rfl) (Nat.le_of_ble_eq_true rfl)
      · skip
        exact absurd c_22 (by decide)
  rw [hH, hlo, hQ9] at goal_
  exact goal_
