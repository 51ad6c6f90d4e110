section
-- ===== PART A: goes FIRST, ahead of the names: the tables' words, and 'selects' of the private methods out of them =====
/-- a private method of a class that the tables say can be made, by its rows of tables_1 -/
def lw_okq (q : MethodName × Nat) : Prop := (q.1.cls ≠ "java/lang/invoke/MethodHandle" ∧ q.1.cls ≠ "java/lang/invoke/VarHandle") ∧ Cond.instantiable q.1.cls q.2 ∈ tables_1 ∧ Cond.privateMethod q.1 ∈ tables_1 ∧ Cond.instanceMethod q.1 ∈ tables_1
theorem lw_p0 : lw_okq (⟨"java/lang/Throwable", "fillInStackTrace", "(I)Ljava/lang/Throwable;"⟩, 6) := ⟨⟨by decide +kernel, by decide +kernel⟩, List.mem_of_getElem? (i := 356) (by decide +kernel), List.mem_of_getElem? (i := 354) (by decide +kernel), List.mem_of_getElem? (i := 355) (by decide +kernel)⟩
theorem lw_p1 : lw_okq (⟨"TunnelRing", "checkGround", "(I)V"⟩, 12) := ⟨⟨by decide +kernel, by decide +kernel⟩, List.mem_of_getElem? (i := 24) (by decide +kernel), List.mem_of_getElem? (i := 453) (by decide +kernel), List.mem_of_getElem? (i := 454) (by decide +kernel)⟩
theorem lw_p2 : lw_okq (⟨"TunnelRing", "checkRings", "(II)V"⟩, 12) := ⟨⟨by decide +kernel, by decide +kernel⟩, List.mem_of_getElem? (i := 24) (by decide +kernel), List.mem_of_getElem? (i := 565) (by decide +kernel), List.mem_of_getElem? (i := 566) (by decide +kernel)⟩
theorem lw_p3 : lw_okq (⟨"TunnelRing", "slurryTaken", "(I)I"⟩, 12) := ⟨⟨by decide +kernel, by decide +kernel⟩, List.mem_of_getElem? (i := 24) (by decide +kernel), List.mem_of_getElem? (i := 650) (by decide +kernel), List.mem_of_getElem? (i := 651) (by decide +kernel)⟩
theorem lw_p4 : lw_okq (⟨"TunnelRing", "firstReason", "(II)C"⟩, 12) := ⟨⟨by decide +kernel, by decide +kernel⟩, List.mem_of_getElem? (i := 24) (by decide +kernel), List.mem_of_getElem? (i := 674) (by decide +kernel), List.mem_of_getElem? (i := 675) (by decide +kernel)⟩
theorem lw_p5 : lw_okq (⟨"TunnelRing", "prepareSearch", "(II)V"⟩, 12) := ⟨⟨by decide +kernel, by decide +kernel⟩, List.mem_of_getElem? (i := 24) (by decide +kernel), List.mem_of_getElem? (i := 682) (by decide +kernel), List.mem_of_getElem? (i := 683) (by decide +kernel)⟩
theorem lw_p6 : lw_okq (⟨"TunnelRing", "followPlan", "(I)V"⟩, 12) := ⟨⟨by decide +kernel, by decide +kernel⟩, List.mem_of_getElem? (i := 24) (by decide +kernel), List.mem_of_getElem? (i := 686) (by decide +kernel), List.mem_of_getElem? (i := 687) (by decide +kernel)⟩
theorem lw_p7 : lw_okq (⟨"TunnelRing", "sinkWhileLaying", "(I)V"⟩, 12) := ⟨⟨by decide +kernel, by decide +kernel⟩, List.mem_of_getElem? (i := 24) (by decide +kernel), List.mem_of_getElem? (i := 765) (by decide +kernel), List.mem_of_getElem? (i := 766) (by decide +kernel)⟩
theorem lw_p8 : lw_okq (⟨"TunnelRing", "sinkWhileStanding", "(II)V"⟩, 12) := ⟨⟨by decide +kernel, by decide +kernel⟩, List.mem_of_getElem? (i := 24) (by decide +kernel), List.mem_of_getElem? (i := 797) (by decide +kernel), List.mem_of_getElem? (i := 798) (by decide +kernel)⟩
theorem lw_p9 : lw_okq (⟨"TunnelRing", "checkLaid", "(I)V"⟩, 12) := ⟨⟨by decide +kernel, by decide +kernel⟩, List.mem_of_getElem? (i := 24) (by decide +kernel), List.mem_of_getElem? (i := 808) (by decide +kernel), List.mem_of_getElem? (i := 809) (by decide +kernel)⟩
theorem lw_p10 : lw_okq (⟨"TunnelRing", "followRings", "(I)V"⟩, 12) := ⟨⟨by decide +kernel, by decide +kernel⟩, List.mem_of_getElem? (i := 24) (by decide +kernel), List.mem_of_getElem? (i := 841) (by decide +kernel), List.mem_of_getElem? (i := 842) (by decide +kernel)⟩
theorem lw_p11 : lw_okq (⟨"TunnelRing", "checkHouse", "(I)V"⟩, 12) := ⟨⟨by decide +kernel, by decide +kernel⟩, List.mem_of_getElem? (i := 24) (by decide +kernel), List.mem_of_getElem? (i := 924) (by decide +kernel), List.mem_of_getElem? (i := 925) (by decide +kernel)⟩
theorem lw_p12 : lw_okq (⟨"TunnelRing", "greatestSinking", "(I)I"⟩, 12) := ⟨⟨by decide +kernel, by decide +kernel⟩, List.mem_of_getElem? (i := 24) (by decide +kernel), List.mem_of_getElem? (i := 929) (by decide +kernel), List.mem_of_getElem? (i := 930) (by decide +kernel)⟩
theorem lw_p13 : lw_okq (⟨"TunnelRing", "leastSinking", "(I)I"⟩, 12) := ⟨⟨by decide +kernel, by decide +kernel⟩, List.mem_of_getElem? (i := 24) (by decide +kernel), List.mem_of_getElem? (i := 940) (by decide +kernel), List.mem_of_getElem? (i := 941) (by decide +kernel)⟩
theorem lw_p14 : lw_okq (⟨"TunnelRing", "paymentDue", "(I)I"⟩, 12) := ⟨⟨by decide +kernel, by decide +kernel⟩, List.mem_of_getElem? (i := 24) (by decide +kernel), List.mem_of_getElem? (i := 952) (by decide +kernel), List.mem_of_getElem? (i := 953) (by decide +kernel)⟩
theorem lw_p15 : lw_okq (⟨"TunnelRingModel", "isThrown", "(ZI)Z"⟩, 30) := ⟨⟨by decide +kernel, by decide +kernel⟩, List.mem_of_getElem? (i := 1015) (by decide +kernel), List.mem_of_getElem? (i := 1123) (by decide +kernel), List.mem_of_getElem? (i := 1124) (by decide +kernel)⟩
def lw_privs_1 : List (MethodName × Nat) := [(⟨"java/lang/Throwable", "fillInStackTrace", "(I)Ljava/lang/Throwable;"⟩, 6), (⟨"TunnelRing", "checkGround", "(I)V"⟩, 12), (⟨"TunnelRing", "checkRings", "(II)V"⟩, 12), (⟨"TunnelRing", "slurryTaken", "(I)I"⟩, 12), (⟨"TunnelRing", "firstReason", "(II)C"⟩, 12), (⟨"TunnelRing", "prepareSearch", "(II)V"⟩, 12), (⟨"TunnelRing", "followPlan", "(I)V"⟩, 12), (⟨"TunnelRing", "sinkWhileLaying", "(I)V"⟩, 12), (⟨"TunnelRing", "sinkWhileStanding", "(II)V"⟩, 12), (⟨"TunnelRing", "checkLaid", "(I)V"⟩, 12), (⟨"TunnelRing", "followRings", "(I)V"⟩, 12), (⟨"TunnelRing", "checkHouse", "(I)V"⟩, 12), (⟨"TunnelRing", "greatestSinking", "(I)I"⟩, 12), (⟨"TunnelRing", "leastSinking", "(I)I"⟩, 12), (⟨"TunnelRing", "paymentDue", "(I)I"⟩, 12), (⟨"TunnelRingModel", "isThrown", "(ZI)Z"⟩, 30)]
theorem lw_r1 : ∀ q ∈ lw_privs_1, lw_okq q := List.forall_mem_cons.mpr ⟨lw_p0, List.forall_mem_cons.mpr ⟨lw_p1, List.forall_mem_cons.mpr ⟨lw_p2, List.forall_mem_cons.mpr ⟨lw_p3, List.forall_mem_cons.mpr ⟨lw_p4, List.forall_mem_cons.mpr ⟨lw_p5, List.forall_mem_cons.mpr ⟨lw_p6, List.forall_mem_cons.mpr ⟨lw_p7, List.forall_mem_cons.mpr ⟨lw_p8, List.forall_mem_cons.mpr ⟨lw_p9, List.forall_mem_cons.mpr ⟨lw_p10, List.forall_mem_cons.mpr ⟨lw_p11, List.forall_mem_cons.mpr ⟨lw_p12, List.forall_mem_cons.mpr ⟨lw_p13, List.forall_mem_cons.mpr ⟨lw_p14, List.forall_mem_cons.mpr ⟨lw_p15, fun _ h => absurd h List.not_mem_nil⟩⟩⟩⟩⟩⟩⟩⟩⟩⟩⟩⟩⟩⟩⟩⟩
theorem lw_p16 : lw_okq (⟨"TunnelRingModel", "isNoGround", "(I)Z"⟩, 30) := ⟨⟨by decide +kernel, by decide +kernel⟩, List.mem_of_getElem? (i := 1015) (by decide +kernel), List.mem_of_getElem? (i := 1135) (by decide +kernel), List.mem_of_getElem? (i := 1136) (by decide +kernel)⟩
theorem lw_p17 : lw_okq (⟨"TunnelRingModel", "isNoStack", "(I)Z"⟩, 30) := ⟨⟨by decide +kernel, by decide +kernel⟩, List.mem_of_getElem? (i := 1015) (by decide +kernel), List.mem_of_getElem? (i := 1151) (by decide +kernel), List.mem_of_getElem? (i := 1152) (by decide +kernel)⟩
theorem lw_p18 : lw_okq (⟨"TunnelRingModel", "top", "(I)I"⟩, 30) := ⟨⟨by decide +kernel, by decide +kernel⟩, List.mem_of_getElem? (i := 1015) (by decide +kernel), List.mem_of_getElem? (i := 1155) (by decide +kernel), List.mem_of_getElem? (i := 1156) (by decide +kernel)⟩
theorem lw_p19 : lw_okq (⟨"TunnelRingModel", "isEmpty", "(I)Z"⟩, 30) := ⟨⟨by decide +kernel, by decide +kernel⟩, List.mem_of_getElem? (i := 1015) (by decide +kernel), List.mem_of_getElem? (i := 1171) (by decide +kernel), List.mem_of_getElem? (i := 1172) (by decide +kernel)⟩
theorem lw_p20 : lw_okq (⟨"TunnelRingModel", "toCure", "(I)I"⟩, 30) := ⟨⟨by decide +kernel, by decide +kernel⟩, List.mem_of_getElem? (i := 1015) (by decide +kernel), List.mem_of_getElem? (i := 1175) (by decide +kernel), List.mem_of_getElem? (i := 1176) (by decide +kernel)⟩
theorem lw_p21 : lw_okq (⟨"TunnelRingModel", "takes", "()I"⟩, 30) := ⟨⟨by decide +kernel, by decide +kernel⟩, List.mem_of_getElem? (i := 1015) (by decide +kernel), List.mem_of_getElem? (i := 1204) (by decide +kernel), List.mem_of_getElem? (i := 1205) (by decide +kernel)⟩
theorem lw_p22 : lw_okq (⟨"TunnelRingModel", "isNoPosition", "(II)Z"⟩, 30) := ⟨⟨by decide +kernel, by decide +kernel⟩, List.mem_of_getElem? (i := 1015) (by decide +kernel), List.mem_of_getElem? (i := 1216) (by decide +kernel), List.mem_of_getElem? (i := 1217) (by decide +kernel)⟩
theorem lw_p23 : lw_okq (⟨"TunnelRingModel", "reason", "(II)C"⟩, 30) := ⟨⟨by decide +kernel, by decide +kernel⟩, List.mem_of_getElem? (i := 1015) (by decide +kernel), List.mem_of_getElem? (i := 1220) (by decide +kernel), List.mem_of_getElem? (i := 1221) (by decide +kernel)⟩
theorem lw_p24 : lw_okq (⟨"TunnelRingModel", "before", "()I"⟩, 30) := ⟨⟨by decide +kernel, by decide +kernel⟩, List.mem_of_getElem? (i := 1015) (by decide +kernel), List.mem_of_getElem? (i := 1224) (by decide +kernel), List.mem_of_getElem? (i := 1225) (by decide +kernel)⟩
theorem lw_p25 : lw_okq (⟨"TunnelRingModel", "deviation", "(II)I"⟩, 30) := ⟨⟨by decide +kernel, by decide +kernel⟩, List.mem_of_getElem? (i := 1015) (by decide +kernel), List.mem_of_getElem? (i := 1232) (by decide +kernel), List.mem_of_getElem? (i := 1233) (by decide +kernel)⟩
theorem lw_p26 : lw_okq (⟨"TunnelRingModel", "lastX", "()I"⟩, 30) := ⟨⟨by decide +kernel, by decide +kernel⟩, List.mem_of_getElem? (i := 1015) (by decide +kernel), List.mem_of_getElem? (i := 1236) (by decide +kernel), List.mem_of_getElem? (i := 1237) (by decide +kernel)⟩
theorem lw_p27 : lw_okq (⟨"TunnelRingModel", "lastY", "()I"⟩, 30) := ⟨⟨by decide +kernel, by decide +kernel⟩, List.mem_of_getElem? (i := 1015) (by decide +kernel), List.mem_of_getElem? (i := 1243) (by decide +kernel), List.mem_of_getElem? (i := 1244) (by decide +kernel)⟩
theorem lw_p28 : lw_okq (⟨"TunnelRingModel", "apart", "(III)I"⟩, 30) := ⟨⟨by decide +kernel, by decide +kernel⟩, List.mem_of_getElem? (i := 1015) (by decide +kernel), List.mem_of_getElem? (i := 1250) (by decide +kernel), List.mem_of_getElem? (i := 1251) (by decide +kernel)⟩
theorem lw_p29 : lw_okq (⟨"TunnelRingModel", "planned", "(I[I)I"⟩, 30) := ⟨⟨by decide +kernel, by decide +kernel⟩, List.mem_of_getElem? (i := 1015) (by decide +kernel), List.mem_of_getElem? (i := 1254) (by decide +kernel), List.mem_of_getElem? (i := 1255) (by decide +kernel)⟩
theorem lw_p30 : lw_okq (⟨"TunnelRingModel", "sinks", "(II)V"⟩, 30) := ⟨⟨by decide +kernel, by decide +kernel⟩, List.mem_of_getElem? (i := 1015) (by decide +kernel), List.mem_of_getElem? (i := 1262) (by decide +kernel), List.mem_of_getElem? (i := 1263) (by decide +kernel)⟩
theorem lw_p31 : lw_okq (⟨"TunnelRingModel", "isNoRing", "(I)Z"⟩, 30) := ⟨⟨by decide +kernel, by decide +kernel⟩, List.mem_of_getElem? (i := 1015) (by decide +kernel), List.mem_of_getElem? (i := 1282) (by decide +kernel), List.mem_of_getElem? (i := 1283) (by decide +kernel)⟩
def lw_privs_2 : List (MethodName × Nat) := [(⟨"TunnelRingModel", "isNoGround", "(I)Z"⟩, 30), (⟨"TunnelRingModel", "isNoStack", "(I)Z"⟩, 30), (⟨"TunnelRingModel", "top", "(I)I"⟩, 30), (⟨"TunnelRingModel", "isEmpty", "(I)Z"⟩, 30), (⟨"TunnelRingModel", "toCure", "(I)I"⟩, 30), (⟨"TunnelRingModel", "takes", "()I"⟩, 30), (⟨"TunnelRingModel", "isNoPosition", "(II)Z"⟩, 30), (⟨"TunnelRingModel", "reason", "(II)C"⟩, 30), (⟨"TunnelRingModel", "before", "()I"⟩, 30), (⟨"TunnelRingModel", "deviation", "(II)I"⟩, 30), (⟨"TunnelRingModel", "lastX", "()I"⟩, 30), (⟨"TunnelRingModel", "lastY", "()I"⟩, 30), (⟨"TunnelRingModel", "apart", "(III)I"⟩, 30), (⟨"TunnelRingModel", "planned", "(I[I)I"⟩, 30), (⟨"TunnelRingModel", "sinks", "(II)V"⟩, 30), (⟨"TunnelRingModel", "isNoRing", "(I)Z"⟩, 30)]
theorem lw_r2 : ∀ q ∈ lw_privs_2, lw_okq q := List.forall_mem_cons.mpr ⟨lw_p16, List.forall_mem_cons.mpr ⟨lw_p17, List.forall_mem_cons.mpr ⟨lw_p18, List.forall_mem_cons.mpr ⟨lw_p19, List.forall_mem_cons.mpr ⟨lw_p20, List.forall_mem_cons.mpr ⟨lw_p21, List.forall_mem_cons.mpr ⟨lw_p22, List.forall_mem_cons.mpr ⟨lw_p23, List.forall_mem_cons.mpr ⟨lw_p24, List.forall_mem_cons.mpr ⟨lw_p25, List.forall_mem_cons.mpr ⟨lw_p26, List.forall_mem_cons.mpr ⟨lw_p27, List.forall_mem_cons.mpr ⟨lw_p28, List.forall_mem_cons.mpr ⟨lw_p29, List.forall_mem_cons.mpr ⟨lw_p30, List.forall_mem_cons.mpr ⟨lw_p31, fun _ h => absurd h List.not_mem_nil⟩⟩⟩⟩⟩⟩⟩⟩⟩⟩⟩⟩⟩⟩⟩⟩
theorem lw_p32 : lw_okq (⟨"TunnelRingModel", "least", "(IIIIIIII)I"⟩, 30) := ⟨⟨by decide +kernel, by decide +kernel⟩, List.mem_of_getElem? (i := 1015) (by decide +kernel), List.mem_of_getElem? (i := 1324) (by decide +kernel), List.mem_of_getElem? (i := 1325) (by decide +kernel)⟩
theorem lw_p33 : lw_okq (⟨"TunnelRingModel", "isNoHouse", "(I)Z"⟩, 30) := ⟨⟨by decide +kernel, by decide +kernel⟩, List.mem_of_getElem? (i := 1015) (by decide +kernel), List.mem_of_getElem? (i := 1343) (by decide +kernel), List.mem_of_getElem? (i := 1344) (by decide +kernel)⟩
theorem lw_p34 : lw_okq (⟨"TunnelRingModel", "most", "(I)I"⟩, 30) := ⟨⟨by decide +kernel, by decide +kernel⟩, List.mem_of_getElem? (i := 1015) (by decide +kernel), List.mem_of_getElem? (i := 1347) (by decide +kernel), List.mem_of_getElem? (i := 1348) (by decide +kernel)⟩
theorem lw_p35 : lw_okq (⟨"TunnelRingModel", "owed", "(I)I"⟩, 30) := ⟨⟨by decide +kernel, by decide +kernel⟩, List.mem_of_getElem? (i := 1015) (by decide +kernel), List.mem_of_getElem? (i := 1359) (by decide +kernel), List.mem_of_getElem? (i := 1360) (by decide +kernel)⟩
theorem lw_p36 : lw_okq (⟨"TunnelRingModel", "writes", "(I)V"⟩, 30) := ⟨⟨by decide +kernel, by decide +kernel⟩, List.mem_of_getElem? (i := 1015) (by decide +kernel), List.mem_of_getElem? (i := 1391) (by decide +kernel), List.mem_of_getElem? (i := 1392) (by decide +kernel)⟩
def lw_privs_3 : List (MethodName × Nat) := [(⟨"TunnelRingModel", "least", "(IIIIIIII)I"⟩, 30), (⟨"TunnelRingModel", "isNoHouse", "(I)Z"⟩, 30), (⟨"TunnelRingModel", "most", "(I)I"⟩, 30), (⟨"TunnelRingModel", "owed", "(I)I"⟩, 30), (⟨"TunnelRingModel", "writes", "(I)V"⟩, 30)]
theorem lw_r3 : ∀ q ∈ lw_privs_3, lw_okq q := List.forall_mem_cons.mpr ⟨lw_p32, List.forall_mem_cons.mpr ⟨lw_p33, List.forall_mem_cons.mpr ⟨lw_p34, List.forall_mem_cons.mpr ⟨lw_p35, List.forall_mem_cons.mpr ⟨lw_p36, fun _ h => absurd h List.not_mem_nil⟩⟩⟩⟩⟩
def lw_privs : List (MethodName × Nat) := lw_privs_1 ++ (lw_privs_2 ++ (lw_privs_3))
def lw_tbl : List Cond := k2_sels lw_privs ++ tables_1
theorem lw_privs_ok : ∀ q ∈ lw_privs, lw_okq q := by
  show ∀ q ∈ lw_privs_1 ++ (lw_privs_2 ++ (lw_privs_3)), lw_okq q
  exact List.forall_mem_append.mpr ⟨lw_r1, List.forall_mem_append.mpr ⟨lw_r2, lw_r3⟩⟩
/-- the streams that the claim lets the run draw from -/
abbrev lw_cs : List Choice := [Jvm.Choice.named "NaN.bits"]
theorem lw_bits : nanBits ∈ lw_cs := by first | decide | exact List.mem_cons_self | simp [lw_cs, nanBits]
end
section
/-! ===== BEGIN words of one list among another's, by their places ===== -/
theorem goodIn_r {big : List Cond} (ws : List Cond) (ps : List Nat) (hp : ws = ps.filterMap (fun i => big[i]?)) (h : ws.all goodWord = true) : GoodIn big ws := by
  intro w hw
  have h1 := List.all_eq_true.mp h w hw
  rw [hp] at hw
  obtain ⟨i, -, hi⟩ := List.mem_filterMap.mp hw
  have hm : w ∈ big := by first | exact List.mem_of_getElem? hi | exact List.getElem?_mem hi
  exact ⟨hm, good_of_word h1⟩
theorem goodIn_app {big a b : List Cond} (ha : GoodIn big a) (hb : GoodIn big b) : GoodIn big (a ++ b) := fun w h => (List.mem_append.mp h).elim (ha w) (hb w)
theorem goodIn_ca {big a b : List Cond} {c : Cond} (ha : GoodIn big (c :: a)) (hb : GoodIn big b) : GoodIn big (c :: (a ++ b)) := fun w h => (List.mem_cons.mp h).elim (fun e => ha w (List.mem_cons.mpr (Or.inl e))) (fun h => (List.mem_append.mp h).elim (fun h => ha w (List.mem_cons.mpr (Or.inr h))) (hb w))
theorem goodIn_sub {big ws : List Cond} (hm : ∀ w ∈ ws, w ∈ big) (h : ws.all goodWord = true) : GoodIn big ws := fun w hw => ⟨hm w hw, good_of_word (List.all_eq_true.mp h w hw)⟩
/-! ===== END ===== -/

/-! ===== BEGIN exceptions that leave a method, and their catching by the caller (launches without stack traces) ===== -/
section VXA
/-! The laws vx_back, vx_callV, vx_callS, vx_callSW, vx_throw0, vx_throwS follow proofs of the library, with one case more: JvmDerived/Free/Laws.lean (Back.of_free), Shelf42/LK1.lean (callV, callS), Shelf/KitTraced.lean (throwNew0V, throwNewS). -/
/-- where a method has thrown q: the class by its name, the cell, what was written, the world -/
def vx_T (XC : String → State → State → Prop) (st : State) (q : Addr) (t : State) (mc ms : Nat) (free : Addr → Prop) : Prop :=
  ∃ (E : String) (ce : Cell) (L : List Loc), XC E st t ∧ t.heap[q]? = some ce ∧ ce.vm = .none ∧ st.vm.findClass E = some ce.cls ∧ st.WarmedH t.vm ∧ st.sameButNew ({ t with vm := st.vm } : State) L mc ms ∧ ∀ z ∈ L, free z.base
def vx_Q (Qc : Array Value → State → Outcome → State → Prop) (XC : String → State → State → Prop) (mc ms : Nat) (free : Addr → Prop) : Array Value → State → Outcome → State → Prop := fun a st o t =>
  (Qc a st o t ∧ ∃ L, FrameEnd st o t L mc ms ∧ ∀ q ∈ L, free q.base) ∨ ∃ q, o = .threw q ∧ vx_T XC st q t mc ms free
/-- a callee that returns or throws -/
def vx_Met (l : Launch) (y : MethodName) (ws : List Cond) (rm : Room) (Pc : Array Value → State → Prop) (Qc : Array Value → State → Outcome → State → Prop) (XC : String → State → State → Prop) (mc ms : Nat) (free : Addr → Prop) : Prop :=
  MetFree l y (headSpec ws rm) Pc (fun _ _ _ _ _ => True) (vx_Q Qc XC mc ms free)
def vx_Post (XC : String → State → State → Prop) (mc ms : Nat) (free : Addr → Prop) : Pt → Array Value → Addr → Pt → Prop := fun A a q B =>
  ∃ (g : JFrame) (mk : MethodId) (t : State) (L : List Loc) (E : String) (ce : Cell), B.U.heap = t.heap ∧ B.U.vm = t.vm ∧ XC E (A.U.calling g mk a) t ∧ t.heap[q]? = some ce ∧ ce.vm = .none ∧ A.U.vm.findClass E = some ce.cls ∧ B.locs = A.locs ++ L ∧ (∀ z ∈ L, free z.base) ∧ B.cells = A.cells + mc ∧ B.slots = A.slots + ms
def vx_Back (l : Launch) (R : Room) (p : Program) (e : Env) (below : List Frame) (s : State) (sargs : Array Value) (y : MethodName) (len W9 : Nat)
    (Pre : Pt → Array Value → Prop) (Post : Pt → Array Value → Option Value → Pt → Prop) (PostX : Pt → Array Value → Addr → Pt → Prop) : Prop :=
  ∀ (m : MethodId) (meth : Method) (c : Code) (A : Pt) (g : JFrame) (ig : Instr) (mk : MethodId) (a : Array Value),
    Stand p l e R s m sargs below meth c A.U A.locs A.cells A.slots → g.method = m → g.locals.size = c.maxLocals → decode c.code g.pc = .ok (ig, len) →
    2 * g.monitorRoom + (g.stack.map fun v => v.category).sum ≤ W9 → A.U.methodNamed? y = some mk → Pre A a →
    (∃ (v : Option Value) (B : Pt), Stand p l e R s m sargs below meth c B.U B.locs B.cells B.slots ∧ Post A a v B ∧
      Steps p.tables e below (doInvoke e (A.U.setTop g) [] mk a).1 (B.U.setTop { g with pc := g.pc + len, stack := v.toList ++ g.stack })) ∨
    (∃ (q : Addr) (B : Pt), Stand p l e R s m sargs below meth c B.U B.locs B.cells B.slots ∧ PostX A a q B ∧
      Steps p.tables e below (doInvoke e (A.U.setTop g) [] mk a).1 ((B.U.setTop g).pushFrame (.throwing q)))
section Payer
variable {l : Launch} {R : Room} {p : Program} {e : Env} {below : List Frame} {s : State} {sargs : Array Value} {y : MethodName} {len W9 : Nat}
theorem vx_back {ws : List Cond} {rm : Room} {Pc : Array Value → State → Prop} {Qc : Array Value → State → Outcome → State → Prop} {XC : String → State → State → Prop} {mc ms : Nat} {free : Addr → Prop} {bytes : ByteArray} {maxL : Nat} {ret : Option FieldType}
    (hM : vx_Met l y ws rm Pc Qc XC mc ms free) (hblind : FrameBlind Pc) (hrc : rm.cells = mc) (hrs : rm.slots = ms)
    (hframes : rm.frames + 1 ≤ R.frames) (hlocals : W9 + (maxL + 11) + rm.locals ≤ R.locals)
    (hws : ∀ w ∈ ws, ∀ a' U, s.WarmedH U.vm → w.before a' U = true) (hcode : Cond.code y bytes maxL ret ∈ ws) (hinit : ∀ a' U, s.WarmedH U.vm → (Cond.initialized y.cls).before a' U = true) :
    vx_Back l R p e below s sargs y len W9 (PreOf R mc ms Pc) (PostOf Qc mc ms free) (vx_Post XC mc ms free) := by
  intro m meth c A g ig mk a X hg hsize hdg hW hn hp
  have h1 : (headSpec ws rm).pre.before a A.U = true := atoms_intro fun w hw => hws w hw _ _ X.warmed
  have h2 : (Cond.code y bytes maxL ret).before a A.U = true := hws _ hcode _ _ X.warmed
  have h3 : (Cond.initialized y.cls).before a A.U = true := hinit _ _ X.warmed
  have h4 : A.cells + (headSpec ws rm).room.cells ≤ R.cells := by rw [show (headSpec ws rm).room.cells = mc from hrc]; exact hp.1
  have h5 : A.slots + (headSpec ws rm).room.slots ≤ R.slots := by rw [show (headSpec ws rm).room.slots = ms from hrs]; exact hp.2.1
  have hPc : Pc a (A.U.calling g mk a) := hblind _ _ _ _ hp.2.2
  obtain ⟨U, Ls, c0, s0⟩ := A
  dsimp only [Pt.U, Pt.locs, Pt.cells, Pt.slots] at h1 h2 h3 h4 h5 X hn hPc ⊢
  obtain ⟨methY, cY, hmY, hcY, -, hlY, -, -, -, -⟩ := Cond.code_spec hn h2
  obtain ⟨kY, hkY, -⟩ := className_of_methodNamed hn
  have hinitY : kY.init = .initialized := Cond.initialized_spec (findClass_of_methodNamed hn) hkY h3
  have h : At U g.method c below := by rw [hg]; exact X.here
  have hlocals9 : W9 + (maxL + 11) + (headSpec ws rm).room.locals ≤ R.locals := hlocals
  have happ : (headSpec ws rm).appliesLoose y e.platform (U.calling g mk a) = true :=
    Spec.appliesLoose_calling (g := g) h hdg hn hkY hinitY
      (X.room_calling (g := g) (R' := (headSpec ws rm).room) hsize hmY hcY hframes (by rw [hlY]; omega) h4 h5) h1
  obtain ⟨mid, hmid⟩ := h.above
  have hfr : (U.setTop g).frames = (.java g :: mid) ++ below := by rw [State.frames_setTop' g h.top, hmid]; rfl
  obtain ⟨o, s₂, hsteps, -, hend, hq⟩ := Steps.callFree hM p X.admits X.cas X.clock (acts := []) hfr happ hPc trivial
  have hq' : vx_Q Qc XC mc ms free a (U.calling g mk a) o s₂ := hq
  rw [State.frames_setTop' g h.top] at hend
  obtain ⟨g₀, hg0⟩ := Option.isSome_iff_exists.mp h.top
  obtain ⟨r, hr⟩ := State.topJava?_eq_some.mp hg0
  have hr' : (({ U with heap := s₂.heap, slotsUsed := s₂.slotsUsed } : State).setVm s₂.vm).frames = .java g₀ :: r := hr
  rcases hq' with ⟨hqc, L, hfe, hL⟩ | ⟨q, rfl, E, ce, L, hx, hce, hcv, hcl, hW₂, hsm, hL⟩
  · obtain ⟨⟨v, rfl⟩, hW₂, e2, q2, q3, q4, q5, q6⟩ := id hfe
    have e3 : s₂ = ({ (U.calling g mk a).setFrames s₂.frames with heap := s₂.heap, slotsUsed := s₂.slotsUsed } : State).setVm s₂.vm := by
      have : s₂ = ({ s₂ with vm := (U.calling g mk a).vm } : State).setVm s₂.vm := rfl
      rw [e2] at this
      exact this
    obtain ⟨c₂, i₂, len₂, hc₂, hd₂, hf₂⟩ := hend
    have hW' : U.WarmedH s₂.vm := hW₂
    have hcc : c₂ = c := by
      have h1 : s₂.code? g.method = U.code? g.method := by
        rw [State.code?_eq, State.code?_eq, hW'.alike.method?]
      exact Option.some.inj (hc₂.symm.trans (h1.trans h.code))
    subst hcc
    have hlen : len₂ = len := by rw [hdg] at hd₂; cases hd₂; rfl
    subst hlen
    have hs₂ : s₂ = (({ U with heap := s₂.heap, slotsUsed := s₂.slotsUsed } : State).setVm s₂.vm).setTop { g with pc := g.pc + len₂, stack := v.toList ++ g.stack } := by
      refine e3.trans ?_
      rw [hf₂, State.calling_eq h.top, State.setFrames_setFrames, State.setTop_of_frames _ hr', hr]
      rfl
    have hsame : U.sameButNew ({ U with heap := s₂.heap, slotsUsed := s₂.slotsUsed } : State) L mc ms := by
      refine ⟨?_, q2, q3, q4, q5, q6⟩
      obtain ⟨t, ht, -⟩ := State.frames_cons hr
      show ({ U with heap := s₂.heap, slotsUsed := s₂.slotsUsed } : State) = { U.setFrames U.frames with heap := s₂.heap, slotsUsed := s₂.slotsUsed }
      rw [State.setFrames_self ht]
    subst hg
    refine Or.inl ⟨v, ⟨(({ U with heap := s₂.heap, slotsUsed := s₂.slotsUsed } : State).setVm s₂.vm), Ls ++ L, c0 + mc, s0 + ms⟩,
      ⟨X.admits, X.cas, X.clock, X.frames, X.room, X.hears, X.method, X.code, (X.here.setHeapUsed s₂.heap s₂.slotsUsed).setVm hW'.alike, X.tail, State.WarmedH.trans X.warmed hW', X.limits, X.bytes, X.same.trans (hsame.setVm s.vm)⟩,
      ⟨g, mk, s₂, L, rfl, rfl, hqc, rfl, hL, rfl, rfl⟩, ?_⟩
    show Steps p.tables e below _ ((({ U with heap := s₂.heap, slotsUsed := s₂.slotsUsed } : State).setVm s₂.vm).setTop { g with pc := g.pc + len₂, stack := v.toList ++ g.stack })
    rw [← hs₂]
    exact hsteps
  · obtain ⟨e2, q2, q3, q4, q5, q6⟩ := id hsm
    have e3 : s₂ = ({ (U.calling g mk a).setFrames s₂.frames with heap := s₂.heap, slotsUsed := s₂.slotsUsed } : State).setVm s₂.vm := by
      have : s₂ = ({ s₂ with vm := (U.calling g mk a).vm } : State).setVm s₂.vm := rfl
      rw [e2] at this
      exact this
    have hf₂ : s₂.frames = .throwing q :: .java g :: U.frames.tail := hend
    have hW' : U.WarmedH s₂.vm := hW₂
    have hs₂ : s₂ = ((({ U with heap := s₂.heap, slotsUsed := s₂.slotsUsed } : State).setVm s₂.vm).setTop g).pushFrame (.throwing q) := by
      refine e3.trans ?_
      rw [hf₂, State.calling_eq h.top, State.setFrames_setFrames, State.pushFrame, State.frames_setTop _ hr', State.setTop_of_frames _ hr', State.setFrames_setFrames, hr]
      rfl
    have hsame : U.sameButNew ({ U with heap := s₂.heap, slotsUsed := s₂.slotsUsed } : State) L mc ms := by
      refine ⟨?_, q2, q3, q4, q5, q6⟩
      obtain ⟨t, ht, -⟩ := State.frames_cons hr
      show ({ U with heap := s₂.heap, slotsUsed := s₂.slotsUsed } : State) = { U.setFrames U.frames with heap := s₂.heap, slotsUsed := s₂.slotsUsed }
      rw [State.setFrames_self ht]
    subst hg
    refine Or.inr ⟨q, ⟨(({ U with heap := s₂.heap, slotsUsed := s₂.slotsUsed } : State).setVm s₂.vm), Ls ++ L, c0 + mc, s0 + ms⟩,
      ⟨X.admits, X.cas, X.clock, X.frames, X.room, X.hears, X.method, X.code, (X.here.setHeapUsed s₂.heap s₂.slotsUsed).setVm hW'.alike, X.tail, State.WarmedH.trans X.warmed hW', X.limits, X.bytes, X.same.trans (hsame.setVm s.vm)⟩,
      ⟨g, mk, s₂, L, E, ce, rfl, rfl, hx, hce, hcv, hcl, rfl, hL, rfl, rfl⟩, ?_⟩
    show Steps p.tables e below _ (((({ U with heap := s₂.heap, slotsUsed := s₂.slotsUsed } : State).setVm s₂.vm).setTop g).pushFrame (.throwing q))
    rw [← hs₂]
    exact hsteps
end Payer
section Calls
variable {p : Program} {l : Launch} {e : Env} {R : Room} {s : State} {m : MethodId} {args : Array Value} {below : List Frame} {meth : Method} {c : Code} {T : State} {locs : List Loc} {cells slots : Nat}
theorem vx_callV (X : Stand p l e R s m args below meth c T locs cells slots) (hexec : p.tables.exec = Jvm.exec) {own C : String} {index : Nat} {y : MethodName} {bytes : ByteArray} {maxL : Nat} {ret : Option FieldType}
    (hown : s.vm.findClass own = some m.cls) (hlink : (Cond.methodLink own index y).before args s = true) (hinst : (Cond.instanceMethod y).before args s = true) (hsel : (Cond.selects C y y).before args s = true)
    (hcode : (Cond.code y bytes maxL ret).before args s = true) (hy : y.cls ≠ "java/lang/invoke/MethodHandle" ∧ y.cls ≠ "java/lang/invoke/VarHandle")
    {W9 : Nat} {Pre : Pt → Array Value → Prop} {Post : Pt → Array Value → Option Value → Pt → Prop} {PostX : Pt → Array Value → Addr → Pt → Prop} (hK : vx_Back l R p e below s args y 3 W9 Pre Post PostX)
    {b : Addr} {cellB : Cell} (hcell : T.heap[b]? = some cellB) (hobj : cellB.vm.isStatics = false) (hcls : s.vm.findClass C = some cellB.cls)
    {g : JFrame} (hg : g.method = m) (hsize : g.locals.size = c.maxLocals) {argsL rest : List Value} (hlen : ∀ sig, parseMethodDescriptor y.desc = some sig → argsL.length = sig.parameters.length)
    (hstack : g.stack = argsL.reverse ++ .ref b :: rest) (hW : 2 * g.monitorRoom + (rest.map fun v => v.category).sum ≤ W9) (hdg : decode c.code g.pc = .ok (.invokevirtual index, 3))
    (hpre : ∀ vm₁, s.WarmedH vm₁ → Pre ⟨T.setVm vm₁, locs, cells, slots⟩ (Value.ref b :: argsL).toArray) :
    (∃ (v : Option Value) (vm₁ : Vm) (B : Pt), s.WarmedH vm₁ ∧ Stand p l e R s m args below meth c B.U B.locs B.cells B.slots ∧ Post ⟨T.setVm vm₁, locs, cells, slots⟩ (Value.ref b :: argsL).toArray v B ∧
      ∀ target, Steps p.tables e below (B.U.setTop { g with pc := g.pc + 3, stack := v.toList ++ rest }) target → Steps p.tables e below (T.setTop g) target) ∨
    (∃ (q : Addr) (vm₁ : Vm) (B : Pt), s.WarmedH vm₁ ∧ Stand p l e R s m args below meth c B.U B.locs B.cells B.slots ∧ PostX ⟨T.setVm vm₁, locs, cells, slots⟩ (Value.ref b :: argsL).toArray q B ∧
      Steps p.tables e below (T.setTop g) ((B.U.setTop { g with stack := rest }).pushFrame (.throwing q))) := by
  obtain ⟨mk, methM, hnamed, hmethM, hstM, habM⟩ := Cond.instanceMethod_spec hinst
  obtain ⟨methM', cM, hmethM', -, -, -, -, -, -, hsigM⟩ := Cond.code_spec hnamed hcode
  cases hmethM.symm.trans hmethM'
  obtain ⟨c2, r2, m2, q1, q2, q3, q4, kP, hkP, hkPi⟩ := Cond.selects_spec hsel
  cases hcls.symm.trans q1
  cases (State.methodFound?_of_named hnamed hy).symm.trans q2
  cases hnamed.symm.trans q3
  have hselP : selectMethod e.platform s.vm cellB.cls mk = .method mk := by rw [Launch.admits_selectMethod X.admits]; exact q4
  obtain ⟨vm₁, X₁, hstep₁⟩ := X.invokevirtual hexec hown hlink hnamed hmethM hstM hkP hkPi hy (a := b) (cell := cellB) hcell
    (fun z h => by rw [h] at hobj; cases hobj) hselP hmethM habM hkP hkPi (g := g) hg (argsL := argsL) (rest := rest) (hlen _ hsigM) hstack hdg
  rcases hK m meth c ⟨T.setVm vm₁, locs, cells, slots⟩ { g with stack := rest } (.invokevirtual index) mk (Value.ref b :: argsL).toArray X₁ hg hsize hdg hW (X₁.named hnamed) (hpre vm₁ X₁.warmed) with ⟨v, B, X', hpost, hsteps⟩ | ⟨q, B, X', hpost, hsteps⟩
  · exact Or.inl ⟨v, vm₁, B, X₁.warmed, X', hpost, fun target h => hstep₁ _ fun acts => by rw [doInvoke_state]; exact hsteps.trans h⟩
  · exact Or.inr ⟨q, vm₁, B, X₁.warmed, X', hpost, hstep₁ _ fun acts => by rw [doInvoke_state]; exact hsteps⟩
theorem vx_callS (X : Stand p l e R s m args below meth c T locs cells slots) (hexec : p.tables.exec = Jvm.exec) {own : String} {index : Nat} {y : MethodName} {bytes : ByteArray} {maxL : Nat} {ret : Option FieldType}
    (hown : s.vm.findClass own = some m.cls) (hlink : (Cond.methodLink own index y).before args s = true) (hstat : (Cond.static y).before args s = true) (hinit : (Cond.initialized y.cls).before args s = true)
    (hcode : (Cond.code y bytes maxL ret).before args s = true) (hy : y.cls ≠ "java/lang/invoke/MethodHandle" ∧ y.cls ≠ "java/lang/invoke/VarHandle")
    {W9 : Nat} {Pre : Pt → Array Value → Prop} {Post : Pt → Array Value → Option Value → Pt → Prop} {PostX : Pt → Array Value → Addr → Pt → Prop} (hK : vx_Back l R p e below s args y 3 W9 Pre Post PostX)
    {g : JFrame} (hg : g.method = m) (hsize : g.locals.size = c.maxLocals) {argsL rest : List Value} (hlen : ∀ sig, parseMethodDescriptor y.desc = some sig → argsL.length = sig.parameters.length)
    (hstack : g.stack = argsL.reverse ++ rest) (hW : 2 * g.monitorRoom + (rest.map fun v => v.category).sum ≤ W9) (hdg : decode c.code g.pc = .ok (.invokestatic index, 3))
    (hpre : ∀ vm₁, s.WarmedH vm₁ → Pre ⟨T.setVm vm₁, locs, cells, slots⟩ argsL.toArray) :
    (∃ (v : Option Value) (vm₁ : Vm) (B : Pt), s.WarmedH vm₁ ∧ Stand p l e R s m args below meth c B.U B.locs B.cells B.slots ∧ Post ⟨T.setVm vm₁, locs, cells, slots⟩ argsL.toArray v B ∧
      ∀ target, Steps p.tables e below (B.U.setTop { g with pc := g.pc + 3, stack := v.toList ++ rest }) target → Steps p.tables e below (T.setTop g) target) ∨
    (∃ (q : Addr) (vm₁ : Vm) (B : Pt), s.WarmedH vm₁ ∧ Stand p l e R s m args below meth c B.U B.locs B.cells B.slots ∧ PostX ⟨T.setVm vm₁, locs, cells, slots⟩ argsL.toArray q B ∧
      Steps p.tables e below (T.setTop g) ((B.U.setTop { g with stack := rest }).pushFrame (.throwing q))) := by
  obtain ⟨mk, hnamed⟩ := Cond.code_named hcode
  obtain ⟨methM, cM, hmethM, -, -, -, -, -, -, hsigM⟩ := Cond.code_spec hnamed hcode
  have hstatic : methM.isStatic = true := Cond.static_spec hnamed hmethM hstat
  obtain ⟨kP, hkP, -⟩ := className_of_methodNamed hnamed
  have hinitP : kP.init = .initialized := Cond.initialized_spec (findClass_of_methodNamed hnamed) hkP hinit
  obtain ⟨vm₁, X₁, hstep₁⟩ := X.invokestatic hexec hown hlink hnamed hmethM hstatic hkP hinitP hy (g := g) hg (argsL := argsL) (rest := rest) (hlen _ hsigM) hstack hdg
  rcases hK m meth c ⟨T.setVm vm₁, locs, cells, slots⟩ { g with stack := rest } (.invokestatic index) mk argsL.toArray X₁ hg hsize hdg hW (X₁.named hnamed) (hpre vm₁ X₁.warmed) with ⟨v, B, X', hpost, hsteps⟩ | ⟨q, B, X', hpost, hsteps⟩
  · exact Or.inl ⟨v, vm₁, B, X₁.warmed, X', hpost, fun target h => hstep₁ _ fun acts => by rw [doInvoke_state]; exact hsteps.trans h⟩
  · exact Or.inr ⟨q, vm₁, B, X₁.warmed, X', hpost, hstep₁ _ fun acts => by rw [doInvoke_state]; exact hsteps⟩
end Calls
theorem vx_cls {s : State} {T : State} {vm₁ : Vm} {E : String} {k : ClassId} (hW : s.WarmedH vm₁) (h : (T.setVm vm₁).vm.findClass E = some k) : s.vm.findClass E = some k := by
  have h1 : vm₁.findClass E = some k := h
  rw [hW.alike.findClass] at h1
  exact h1
/-- the method's frame g, with q thrown over it -/
def vx_W (p : Program) (l : Launch) (e : Env) (R : Room) (s : State) (m : MethodId) (args : Array Value) (below : List Frame) (meth : Method) (c : Code) (H : Heap) (locs : List Loc) (cells slots : Nat) (Q : State → Prop) (g : JFrame) (q : Addr) : Prop :=
  ∀ T : State, T.heap = H → Stand p l e R s m args below meth c T locs cells slots → ∃ t, Steps p.tables e below ((T.setTop g).pushFrame (.throwing q)) t ∧ Q t
def vx_Run (p : Program) (l : Launch) (e : Env) (R : Room) (s : State) (m : MethodId) (args : Array Value) (below : List Frame) (meth : Method) (c : Code) (H : Heap) (locs : List Loc) (cells slots mc ms : Nat) (g : JFrame) (rest : List Value) (Qa : State → Outcome → State → Prop) (XC : String → State → State → Prop) (free : Addr → Prop) : Prop :=
  ∀ T : State, T.heap = H → Stand p l e R s m args below meth c T locs cells slots →
    (∃ (v : Option Value) (st₀ t T' : State) (L : List Loc), st₀.heap = H ∧ Stand p l e R s m args below meth c T' (locs ++ L) (cells + mc) (slots + ms) ∧ (∀ q ∈ L, free q.base) ∧ T'.heap = t.heap ∧ T'.vm = t.vm ∧ Qa st₀ (.returned v) t ∧
      Goes p e below T g T' { g with pc := g.pc + 3, stack := v.toList ++ rest }) ∨
    (∃ (q : Addr) (st₀ t T' : State) (L : List Loc) (E : String) (ce : Cell), st₀.heap = H ∧ Stand p l e R s m args below meth c T' (locs ++ L) (cells + mc) (slots + ms) ∧ (∀ z ∈ L, free z.base) ∧ T'.heap = t.heap ∧ T'.vm = t.vm ∧ XC E st₀ t ∧ t.heap[q]? = some ce ∧ ce.vm = .none ∧ s.vm.findClass E = some ce.cls ∧
      Steps p.tables e below (T.setTop g) ((T'.setTop { g with stack := rest }).pushFrame (.throwing q)))
def vx_X {S : Type} (px : S → Prop) (B : String → S → State → Prop) (A : Nat → Prop) : String → State → State → Prop := fun E st t => ∃ u : S, px u ∧ B E u t ∧ va_F A st t
section Runs
variable {p : Program} {l : Launch} {e : Env} {R : Room} {s : State} {m : MethodId} {args : Array Value} {below : List Frame} {meth : Method} {c : Code} {H : Heap} {locs : List Loc} {cells slots : Nat}
variable {y : MethodName} {bytes cc : ByteArray} {maxL nL mc ms n index : Nat} {ret : Option FieldType} {ws : List Cond} {rm : Room} {Pc : Array Value → State → Prop} {Qc : Array Value → State → Outcome → State → Prop} {XC : String → State → State → Prop} {free : Addr → Prop} {Ts : List Cond} {own C : String} {b : Addr} {As rest : List Value} {g : JFrame}
theorem vx_callBack (cb : CallB R s args own index y bytes maxL ret ws rm mc ms n) (hM : vx_Met l y ws rm Pc Qc XC mc ms free) (hbl : FrameBlind Pc) : vx_Back l R p e below s args y 3 8 (PreOf R mc ms Pc) (PostOf Qc mc ms free) (vx_Post XC mc ms free) := by
  obtain ⟨hrc, hrs, hfr, hlo, hws, hcw, -, hini, -⟩ := cb
  exact vx_back (bytes := bytes) (maxL := maxL) (ret := ret) hM hbl hrc hrs hfr hlo hws hcw (fun a' U hW => word_at hW (Or.inl (by first | rfl | simp [Cond.onTables, Cond.keeps, Cond.steady])) hini)
theorem vx_runV (S : CallFix p m c cc nL s args Ts own) (hM : vx_Met l y ws rm Pc Qc XC mc ms free) (cw : CallW R s args own C index y bytes maxL ret ws rm mc ms n) (hp : PreV s H C b Pc As)
    (hg : g.method = m) (hn : As.length = n) (hsize : g.locals.size = nL) (hstack : g.stack = As.reverse ++ .ref b :: rest) (hW : 2 * g.monitorRoom + (rest.map fun v => v.category).sum ≤ 8) (hdg : decode cc g.pc = .ok (.invokevirtual index, 3)) (hf : cells + mc ≤ R.cells ∧ slots + ms ≤ R.slots) :
    vx_Run p l e R s m args below meth c H locs cells slots mc ms g rest (Qc (Value.ref b :: As).toArray) XC free := by
  have hK : vx_Back l R p e below s args y 3 8 (PreOf R mc ms Pc) (PostOf Qc mc ms free) (vx_Post XC mc ms free) := vx_callBack cw.1 hM hp.1
  obtain ⟨⟨-, -, -, -, -, -, hcode, -, hy, hlen, hl⟩, hin, hse⟩ := cw
  obtain ⟨hx, hb, hml, ho, -⟩ := S
  obtain ⟨-, ⟨cellB, hcB, hoB, hclB⟩, hPc⟩ := hp
  intro T hT X
  rcases vx_callV X hx (C := C) (bytes := bytes) (maxL := maxL) (ret := ret) ho hl hin hse hcode hy hK (by rw [hT]; exact hcB) hoB hclB hg (hsize.trans hml.symm) (argsL := As) (rest := rest) (fun sig h => hn.trans (hlen sig h)) hstack hW (by rw [hb]; exact hdg)
    (fun vm₁ hW₁ => ⟨hf.1, hf.2, hPc (T.setVm vm₁) hT hW₁⟩) with ⟨v, vm₁, ⟨U', l2, c2, s2⟩, hW₁, X', ⟨g', mk, t, L, e1, e2, hq, h1, hL, h2, h3⟩, st⟩ | ⟨q, vm₁, ⟨U', l2, c2, s2⟩, hW₁, X', ⟨g', mk, t, L, E, ce, e1, e2, hq, hce, hcv, hcl, h1, hL, h2, h3⟩, st⟩
  · dsimp only [Pt.U, Pt.locs, Pt.cells, Pt.slots] at X' e1 e2 h1 h2 h3 st
    subst h1; subst h2; subst h3
    exact Or.inl ⟨v, (T.setVm vm₁).calling g' mk (Value.ref b :: As).toArray, t, U', L, hT, X', hL, e1, e2, hq, st⟩
  · dsimp only [Pt.U, Pt.locs, Pt.cells, Pt.slots] at X' e1 e2 h1 h2 h3 st hcl
    subst h1; subst h2; subst h3
    exact Or.inr ⟨q, (T.setVm vm₁).calling g' mk (Value.ref b :: As).toArray, t, U', L, E, ce, hT, X', hL, e1, e2, hq, hce, hcv, vx_cls hW₁ hcl, st⟩
theorem vx_runS (S : CallFix p m c cc nL s args Ts own) (hM : vx_Met l y ws rm Pc Qc XC mc ms free) (cw : CallB R s args own index y bytes maxL ret ws rm mc ms n ∧ (Cond.static y).before args s = true) (hp : PreS s H Pc As)
    (hg : g.method = m) (hn : As.length = n) (hsize : g.locals.size = nL) (hstack : g.stack = As.reverse ++ rest) (hW : 2 * g.monitorRoom + (rest.map fun v => v.category).sum ≤ 8) (hdg : decode cc g.pc = .ok (.invokestatic index, 3)) (hf : cells + mc ≤ R.cells ∧ slots + ms ≤ R.slots) :
    vx_Run p l e R s m args below meth c H locs cells slots mc ms g rest (Qc As.toArray) XC free := by
  have hK : vx_Back l R p e below s args y 3 8 (PreOf R mc ms Pc) (PostOf Qc mc ms free) (vx_Post XC mc ms free) := vx_callBack cw.1 hM hp.1
  obtain ⟨⟨-, -, -, -, -, -, hcode, hini, hy, hlen, hl⟩, hstt⟩ := cw
  obtain ⟨hx, hb, hml, ho, -⟩ := S
  intro T hT X
  rcases vx_callS X hx (bytes := bytes) (maxL := maxL) (ret := ret) ho hl hstt hini hcode hy hK hg (hsize.trans hml.symm) (argsL := As) (rest := rest) (fun sig h => hn.trans (hlen sig h)) hstack hW (by rw [hb]; exact hdg)
    (fun vm₁ hW₁ => ⟨hf.1, hf.2, hp.2 (T.setVm vm₁) hT hW₁⟩) with ⟨v, vm₁, ⟨U', l2, c2, s2⟩, hW₁, X', ⟨g', mk, t, L, e1, e2, hq, h1, hL, h2, h3⟩, st⟩ | ⟨q, vm₁, ⟨U', l2, c2, s2⟩, hW₁, X', ⟨g', mk, t, L, E, ce, e1, e2, hq, hce, hcv, hcl, h1, hL, h2, h3⟩, st⟩
  · dsimp only [Pt.U, Pt.locs, Pt.cells, Pt.slots] at X' e1 e2 h1 h2 h3 st
    subst h1; subst h2; subst h3
    exact Or.inl ⟨v, (T.setVm vm₁).calling g' mk As.toArray, t, U', L, hT, X', hL, e1, e2, hq, st⟩
  · dsimp only [Pt.U, Pt.locs, Pt.cells, Pt.slots] at X' e1 e2 h1 h2 h3 st hcl
    subst h1; subst h2; subst h3
    exact Or.inr ⟨q, (T.setVm vm₁).calling g' mk As.toArray, t, U', L, E, ce, hT, X', hL, e1, e2, hq, hce, hcv, vx_cls hW₁ hcl, st⟩
end Runs
section Rows
variable {p : Program} {l : Launch} {e : Env} {R : Room} {s : State} {m : MethodId} {args : Array Value} {below : List Frame} {meth : Method} {c : Code} {H : Heap} {locs : List Loc} {cells slots : Nat} {Q : State → Prop}
variable {mc ms : Nat} {free : Addr → Prop} {A0 A1 : Nat → Prop} {H0 : Heap} {a : Array Value} {pc : Nat} {ls : Array Slot} {st0 rest : List Value}
theorem vx_keep {st₀ t T' : State} {L : List Loc} (h0 : st₀.heap = H) (e1 : T'.heap = t.heap) (hS : va_S A0 H0 H locs) (hA : ∀ q, q < H.size → A1 q → A0 q) (hf : ∀ q, free q → A0 q) (hL : ∀ q ∈ L, free q.base) (hF : va_F A1 st₀ t) :
    H.size ≤ T'.heap.size ∧ (∀ q : Nat, q < H.size → ¬ A1 q → T'.heap[q]? = H[q]?) ∧ va_S A0 H0 T'.heap (locs ++ L) := by
  obtain ⟨hz, hk⟩ := hF
  rw [h0] at hz hk
  exact ⟨by rw [e1]; exact hz, fun q h1 h2 => by rw [e1]; exact hk q h1 h2,
    ⟨Nat.le_trans hS.1 (by rw [e1]; exact hz), fun q h1 h2 => by rw [e1, hk q (Nat.lt_of_lt_of_le h1 hS.1) (fun z => h2 (hA q (Nat.lt_of_lt_of_le h1 hS.1) z))]; exact hS.2.1 q h1 h2, fun q hq => by
      rcases List.mem_append.mp hq with h | h
      · exact hS.2.2 q h
      · exact hf _ (hL q h)⟩⟩
theorem vx_calli {S SX : Type} {post : Int32 → S → Prop} {px : SX → Prop} {B : S → State → Prop} {BX : String → SX → State → Prop} {AX : Nat → Prop} (hr : vx_Run p l e R s m args below meth c H locs cells slots mc ms (F0 m pc ls st0) rest (va_Qi post B A1 a) (vx_X px BX AX) free) (hS : va_S A0 H0 H locs) (hA : ∀ q, q < H.size → A1 q → A0 q) (hf : ∀ q, free q → A0 q) (hAX : ∀ q, q < H.size → AX q → A0 q)
    (kx : ∀ (E : String) (ce : Cell) (q9 : Addr) (u : SX) (t : State) (H1 : Heap) (locs1 : List Loc), t.heap = H1 → s.vm.Alike t.vm → px u → BX E u t → H.size ≤ H1.size → (∀ q : Nat, q < H.size → ¬ AX q → H1[q]? = H[q]?) → va_S A0 H0 H1 locs1 → H1[q9]? = some ce → ce.vm = .none → s.vm.findClass E = some ce.cls → vx_W p l e R s m args below meth c H1 locs1 (cells + mc) (slots + ms) Q (F0 m pc ls rest) q9)
    (kk : ∀ (r : Int32) (u : S) (t : State) (H1 : Heap) (locs1 : List Loc), t.heap = H1 → s.vm.Alike t.vm → post r u → B u t → H.size ≤ H1.size → (∀ q : Nat, q < H.size → ¬ A1 q → H1[q]? = H[q]?) → va_S A0 H0 H1 locs1 → W p l e R s m args below meth c H1 locs1 (cells + mc) (slots + ms) Q (F0 m (pc + 3) ls (.int r :: rest))) : W p l e R s m args below meth c H locs cells slots Q (F0 m pc ls st0) := by
  intro T hT X
  rcases hr T hT X with ⟨v, st₀, t, T', L, h0, X', hL, e1, e2, ⟨⟨r, u, hv, hp, hb⟩, hF⟩, st⟩ | ⟨q, st₀, t, T', L, E, ce, h0, X', hL, e1, e2, ⟨u, hp, hb, hF⟩, hce, hcv, hcl, st⟩
  · cases hv
    obtain ⟨k1, k2, k3⟩ := vx_keep h0 e1 hS hA hf hL hF
    obtain ⟨t2, a1, b1⟩ := kk r u t T'.heap (locs ++ L) e1.symm (by rw [← e2]; exact X'.warmed.alike) hp hb k1 k2 k3 T' rfl X'
    exact ⟨t2, st t2 a1, b1⟩
  · obtain ⟨k1, k2, k3⟩ := vx_keep h0 e1 hS hAX hf hL hF
    obtain ⟨t2, a1, b1⟩ := kx E ce q u t T'.heap (locs ++ L) e1.symm (by rw [← e2]; exact X'.warmed.alike) hp hb k1 k2 k3 (by rw [e1]; exact hce) hcv hcl T' rfl X'
    exact ⟨t2, st.trans a1, b1⟩
theorem vx_calll {S SX : Type} {post : Int64 → S → Prop} {px : SX → Prop} {B : S → State → Prop} {BX : String → SX → State → Prop} {AX : Nat → Prop} (hr : vx_Run p l e R s m args below meth c H locs cells slots mc ms (F0 m pc ls st0) rest (va_Ql post B A1 a) (vx_X px BX AX) free) (hS : va_S A0 H0 H locs) (hA : ∀ q, q < H.size → A1 q → A0 q) (hf : ∀ q, free q → A0 q) (hAX : ∀ q, q < H.size → AX q → A0 q)
    (kx : ∀ (E : String) (ce : Cell) (q9 : Addr) (u : SX) (t : State) (H1 : Heap) (locs1 : List Loc), t.heap = H1 → s.vm.Alike t.vm → px u → BX E u t → H.size ≤ H1.size → (∀ q : Nat, q < H.size → ¬ AX q → H1[q]? = H[q]?) → va_S A0 H0 H1 locs1 → H1[q9]? = some ce → ce.vm = .none → s.vm.findClass E = some ce.cls → vx_W p l e R s m args below meth c H1 locs1 (cells + mc) (slots + ms) Q (F0 m pc ls rest) q9)
    (kk : ∀ (r : Int64) (u : S) (t : State) (H1 : Heap) (locs1 : List Loc), t.heap = H1 → s.vm.Alike t.vm → post r u → B u t → H.size ≤ H1.size → (∀ q : Nat, q < H.size → ¬ A1 q → H1[q]? = H[q]?) → va_S A0 H0 H1 locs1 → W p l e R s m args below meth c H1 locs1 (cells + mc) (slots + ms) Q (F0 m (pc + 3) ls (.long r :: rest))) : W p l e R s m args below meth c H locs cells slots Q (F0 m pc ls st0) := by
  intro T hT X
  rcases hr T hT X with ⟨v, st₀, t, T', L, h0, X', hL, e1, e2, ⟨⟨r, u, hv, hp, hb⟩, hF⟩, st⟩ | ⟨q, st₀, t, T', L, E, ce, h0, X', hL, e1, e2, ⟨u, hp, hb, hF⟩, hce, hcv, hcl, st⟩
  · cases hv
    obtain ⟨k1, k2, k3⟩ := vx_keep h0 e1 hS hA hf hL hF
    obtain ⟨t2, a1, b1⟩ := kk r u t T'.heap (locs ++ L) e1.symm (by rw [← e2]; exact X'.warmed.alike) hp hb k1 k2 k3 T' rfl X'
    exact ⟨t2, st t2 a1, b1⟩
  · obtain ⟨k1, k2, k3⟩ := vx_keep h0 e1 hS hAX hf hL hF
    obtain ⟨t2, a1, b1⟩ := kx E ce q u t T'.heap (locs ++ L) e1.symm (by rw [← e2]; exact X'.warmed.alike) hp hb k1 k2 k3 (by rw [e1]; exact hce) hcv hcl T' rfl X'
    exact ⟨t2, st.trans a1, b1⟩
theorem vx_callf {S SX : Type} {post : UInt32 → S → Prop} {px : SX → Prop} {B : S → State → Prop} {BX : String → SX → State → Prop} {AX : Nat → Prop} (hr : vx_Run p l e R s m args below meth c H locs cells slots mc ms (F0 m pc ls st0) rest (va_Qf post B A1 a) (vx_X px BX AX) free) (hS : va_S A0 H0 H locs) (hA : ∀ q, q < H.size → A1 q → A0 q) (hf : ∀ q, free q → A0 q) (hAX : ∀ q, q < H.size → AX q → A0 q)
    (kx : ∀ (E : String) (ce : Cell) (q9 : Addr) (u : SX) (t : State) (H1 : Heap) (locs1 : List Loc), t.heap = H1 → s.vm.Alike t.vm → px u → BX E u t → H.size ≤ H1.size → (∀ q : Nat, q < H.size → ¬ AX q → H1[q]? = H[q]?) → va_S A0 H0 H1 locs1 → H1[q9]? = some ce → ce.vm = .none → s.vm.findClass E = some ce.cls → vx_W p l e R s m args below meth c H1 locs1 (cells + mc) (slots + ms) Q (F0 m pc ls rest) q9)
    (kk : ∀ (r : UInt32) (u : S) (t : State) (H1 : Heap) (locs1 : List Loc), t.heap = H1 → s.vm.Alike t.vm → post r u → B u t → H.size ≤ H1.size → (∀ q : Nat, q < H.size → ¬ A1 q → H1[q]? = H[q]?) → va_S A0 H0 H1 locs1 → W p l e R s m args below meth c H1 locs1 (cells + mc) (slots + ms) Q (F0 m (pc + 3) ls (.float r :: rest))) : W p l e R s m args below meth c H locs cells slots Q (F0 m pc ls st0) := by
  intro T hT X
  rcases hr T hT X with ⟨v, st₀, t, T', L, h0, X', hL, e1, e2, ⟨⟨r, u, hv, hp, hb⟩, hF⟩, st⟩ | ⟨q, st₀, t, T', L, E, ce, h0, X', hL, e1, e2, ⟨u, hp, hb, hF⟩, hce, hcv, hcl, st⟩
  · cases hv
    obtain ⟨k1, k2, k3⟩ := vx_keep h0 e1 hS hA hf hL hF
    obtain ⟨t2, a1, b1⟩ := kk r u t T'.heap (locs ++ L) e1.symm (by rw [← e2]; exact X'.warmed.alike) hp hb k1 k2 k3 T' rfl X'
    exact ⟨t2, st t2 a1, b1⟩
  · obtain ⟨k1, k2, k3⟩ := vx_keep h0 e1 hS hAX hf hL hF
    obtain ⟨t2, a1, b1⟩ := kx E ce q u t T'.heap (locs ++ L) e1.symm (by rw [← e2]; exact X'.warmed.alike) hp hb k1 k2 k3 (by rw [e1]; exact hce) hcv hcl T' rfl X'
    exact ⟨t2, st.trans a1, b1⟩
theorem vx_calld {S SX : Type} {post : UInt64 → S → Prop} {px : SX → Prop} {B : S → State → Prop} {BX : String → SX → State → Prop} {AX : Nat → Prop} (hr : vx_Run p l e R s m args below meth c H locs cells slots mc ms (F0 m pc ls st0) rest (va_Qd post B A1 a) (vx_X px BX AX) free) (hS : va_S A0 H0 H locs) (hA : ∀ q, q < H.size → A1 q → A0 q) (hf : ∀ q, free q → A0 q) (hAX : ∀ q, q < H.size → AX q → A0 q)
    (kx : ∀ (E : String) (ce : Cell) (q9 : Addr) (u : SX) (t : State) (H1 : Heap) (locs1 : List Loc), t.heap = H1 → s.vm.Alike t.vm → px u → BX E u t → H.size ≤ H1.size → (∀ q : Nat, q < H.size → ¬ AX q → H1[q]? = H[q]?) → va_S A0 H0 H1 locs1 → H1[q9]? = some ce → ce.vm = .none → s.vm.findClass E = some ce.cls → vx_W p l e R s m args below meth c H1 locs1 (cells + mc) (slots + ms) Q (F0 m pc ls rest) q9)
    (kk : ∀ (r : UInt64) (u : S) (t : State) (H1 : Heap) (locs1 : List Loc), t.heap = H1 → s.vm.Alike t.vm → post r u → B u t → H.size ≤ H1.size → (∀ q : Nat, q < H.size → ¬ A1 q → H1[q]? = H[q]?) → va_S A0 H0 H1 locs1 → W p l e R s m args below meth c H1 locs1 (cells + mc) (slots + ms) Q (F0 m (pc + 3) ls (.double r :: rest))) : W p l e R s m args below meth c H locs cells slots Q (F0 m pc ls st0) := by
  intro T hT X
  rcases hr T hT X with ⟨v, st₀, t, T', L, h0, X', hL, e1, e2, ⟨⟨r, u, hv, hp, hb⟩, hF⟩, st⟩ | ⟨q, st₀, t, T', L, E, ce, h0, X', hL, e1, e2, ⟨u, hp, hb, hF⟩, hce, hcv, hcl, st⟩
  · cases hv
    obtain ⟨k1, k2, k3⟩ := vx_keep h0 e1 hS hA hf hL hF
    obtain ⟨t2, a1, b1⟩ := kk r u t T'.heap (locs ++ L) e1.symm (by rw [← e2]; exact X'.warmed.alike) hp hb k1 k2 k3 T' rfl X'
    exact ⟨t2, st t2 a1, b1⟩
  · obtain ⟨k1, k2, k3⟩ := vx_keep h0 e1 hS hAX hf hL hF
    obtain ⟨t2, a1, b1⟩ := kx E ce q u t T'.heap (locs ++ L) e1.symm (by rw [← e2]; exact X'.warmed.alike) hp hb k1 k2 k3 (by rw [e1]; exact hce) hcv hcl T' rfl X'
    exact ⟨t2, st.trans a1, b1⟩
theorem vx_callv {S SX : Type} {post : S → Prop} {px : SX → Prop} {B : S → State → Prop} {BX : String → SX → State → Prop} {AX : Nat → Prop} (hr : vx_Run p l e R s m args below meth c H locs cells slots mc ms (F0 m pc ls st0) rest (va_Qv post B A1 a) (vx_X px BX AX) free) (hS : va_S A0 H0 H locs) (hA : ∀ q, q < H.size → A1 q → A0 q) (hf : ∀ q, free q → A0 q) (hAX : ∀ q, q < H.size → AX q → A0 q)
    (kx : ∀ (E : String) (ce : Cell) (q9 : Addr) (u : SX) (t : State) (H1 : Heap) (locs1 : List Loc), t.heap = H1 → s.vm.Alike t.vm → px u → BX E u t → H.size ≤ H1.size → (∀ q : Nat, q < H.size → ¬ AX q → H1[q]? = H[q]?) → va_S A0 H0 H1 locs1 → H1[q9]? = some ce → ce.vm = .none → s.vm.findClass E = some ce.cls → vx_W p l e R s m args below meth c H1 locs1 (cells + mc) (slots + ms) Q (F0 m pc ls rest) q9)
    (kk : ∀ (u : S) (t : State) (H1 : Heap) (locs1 : List Loc), t.heap = H1 → s.vm.Alike t.vm → post u → B u t → H.size ≤ H1.size → (∀ q : Nat, q < H.size → ¬ A1 q → H1[q]? = H[q]?) → va_S A0 H0 H1 locs1 → W p l e R s m args below meth c H1 locs1 (cells + mc) (slots + ms) Q (F0 m (pc + 3) ls (rest))) : W p l e R s m args below meth c H locs cells slots Q (F0 m pc ls st0) := by
  intro T hT X
  rcases hr T hT X with ⟨v, st₀, t, T', L, h0, X', hL, e1, e2, ⟨⟨u, hv, hp, hb⟩, hF⟩, st⟩ | ⟨q, st₀, t, T', L, E, ce, h0, X', hL, e1, e2, ⟨u, hp, hb, hF⟩, hce, hcv, hcl, st⟩
  · cases hv
    obtain ⟨k1, k2, k3⟩ := vx_keep h0 e1 hS hA hf hL hF
    obtain ⟨t2, a1, b1⟩ := kk u t T'.heap (locs ++ L) e1.symm (by rw [← e2]; exact X'.warmed.alike) hp hb k1 k2 k3 T' rfl X'
    exact ⟨t2, st t2 a1, b1⟩
  · obtain ⟨k1, k2, k3⟩ := vx_keep h0 e1 hS hAX hf hL hF
    obtain ⟨t2, a1, b1⟩ := kx E ce q u t T'.heap (locs ++ L) e1.symm (by rw [← e2]; exact X'.warmed.alike) hp hb k1 k2 k3 (by rw [e1]; exact hce) hcv hcl T' rfl X'
    exact ⟨t2, st.trans a1, b1⟩
/-- caught by the row x of this method's table; the rows ahead don't take it -/
theorem vx_catch {own name : String} {E : String} {ce : Cell} {q : Addr} (hown : s.vm.findClass own = some m.cls) (pre : List ExceptionTableEntry) (x : ExceptionTableEntry) (suf : List ExceptionTableEntry) (hsplit : c.exceptionTable.toList = pre ++ x :: suf)
    (hpass : ∀ z ∈ pre, covers z pc = false ∨ (z.catchType ≠ 0 ∧ ∃ nm : String, (Cond.classLink own z.catchType nm).before args s = true ∧ va_Nc E nm s)) (hx : covers x pc = true) (h0 : x.catchType ≠ 0)
    (hlink : (Cond.classLink own x.catchType name).before args s = true) (hcast : (Cond.castable E name).before args s = true) (hcell : H[q]? = some ce) (hv : ce.vm = .none) (hcl : s.vm.findClass E = some ce.cls)
    (kk : W p l e R s m args below meth c H locs cells slots Q (F0 m x.handlerPc ls [.ref q])) : vx_W p l e R s m args below meth c H locs cells slots Q (F0 m pc ls rest) q := by
  intro T hT X
  have hpl : e.platform.magicAccessors = ({} : Platform).magicAccessors := by rw [X.admits.platform]
  obtain ⟨c3, c4, hc3, hc4, hasg⟩ := Cond.castable_spec hcast
  cases Option.some.inj (hc3.symm.trans hcl)
  obtain ⟨c5, hc5, hcl5⟩ := Cond.classLink_spec hown hlink e.platform hpl
  cases Option.some.inj (hc4.symm.trans hc5)
  obtain ⟨vm', X', st⟩ := X.thenCaughtThrough q (g := F0 m pc ls rest) rfl (Steps.refl _) (by rw [hT]; exact hcell) (by rw [hv]; rfl) (by obtain ⟨k9, h9, -⟩ := Vm.findClass_spec hcl; exact ⟨k9, h9⟩) pre x suf hsplit
    (fun z hz => by
      rcases hpass z hz with h | ⟨hz0, nm, hl1, hn1⟩
      · exact Or.inl h
      · obtain ⟨c6, hc6, hcl6⟩ := Cond.classLink_spec hown hl1 e.platform hpl
        obtain ⟨a8, b8, h1, h2, h3⟩ := hn1
        cases Option.some.inj (h1.symm.trans hcl)
        cases Option.some.inj (h2.symm.trans hc6)
        exact Or.inr ⟨hz0, _, hcl6, h3⟩) hx (Or.inr ⟨h0, c4, hcl5, hasg⟩)
  obtain ⟨t, a1, b1⟩ := kk (T.setVm vm') hT X'
  exact ⟨t, st.trans a1, b1⟩
end Rows
section Ends
variable {p : Program} {l : Launch} {e : Env} {R : Room} {s : State} {m : MethodId} {args : Array Value} {below : List Frame} {meth : Method} {c : Code} {H : Heap} {locs : List Loc} {cells slots : Nat} {Q : State → Prop}
variable {mc ms : Nat} {free : Addr → Prop} {A0 A1 : Nat → Prop} {H0 : Heap} {a : Array Value} {ls : Array Slot} {st0 rest : List Value}
variable {Qc : Array Value → State → Outcome → State → Prop} {XC : String → State → State → Prop}
/-- what a body that may throw owes at its end -/
def vx_MQ (below : List Frame) (Qc : Array Value → State → Outcome → State → Prop) (XC : String → State → State → Prop) (a : Array Value) (s : State) (mc ms : Nat) (free : Addr → Prop) : State → Prop := fun t =>
  ∃ o, t.status = .running ∧ Ended t below o ∧ vx_Q Qc XC mc ms free a s o t
theorem vx_ret {g : JFrame} {mc ms : Nat} (k : W p l e R s m args below meth c H locs cells slots (MQ below Qc args s mc ms free) g) : W p l e R s m args below meth c H locs cells slots (vx_MQ below Qc XC args s mc ms free) g := by
  intro T hT X
  obtain ⟨t, a1, o, b1, b2, b3, b4⟩ := k T hT X
  exact ⟨t, a1, o, b1, b2, Or.inl ⟨b3, b4⟩⟩
/-- not caught here: it goes on to the caller -/
theorem vx_widen {g : JFrame} {q : Addr} {k n : Nat} (h1 : cells ≤ k) (h2 : slots ≤ n) (kk : vx_W p l e R s m args below meth c H locs k n Q g q) : vx_W p l e R s m args below meth c H locs cells slots Q g q := fun T hT X => kk T hT (stand_widen X h1 h2)
theorem vx_out {pc : Nat} {E : String} {ce : Cell} {q : Addr} {mc ms : Nat} (hout : ∀ x ∈ c.exceptionTable.toList, covers x pc = false) (hlocks : meth.locks = false) (hcell : H[q]? = some ce) (hv : ce.vm = .none) (hcl : s.vm.findClass E = some ce.cls)
    (hx : ∀ t : State, t.heap = H → s.vm.Alike t.vm → XC E s t) (hf : ∀ z ∈ locs, free z.base) (hc : cells ≤ mc) (hs : slots ≤ ms) :
    vx_W p l e R s m args below meth c H locs cells slots (vx_MQ below Qc XC args s mc ms free) (F0 m pc ls rest) q := by
  intro T hT X
  obtain ⟨st1, hrun, hend, hW, hsm⟩ := X.leaveThrown q (g := F0 m pc ls rest) rfl rfl rfl hout hlocks
  have hcell9 : (T.setFrames (.throwing q :: below)).heap[q]? = some ce := by
    show T.heap[q]? = some ce
    rw [hT]; exact hcell
  exact ⟨_, st1, .threw q, hrun, hend, Or.inr ⟨q, rfl, E, ce, locs, hx _ hT hW.alike, hcell9, hv, hcl, hW, hsm.mono hc hs, hf⟩⟩
theorem vx_frame {U : State} {k n : Nat} (h : s.sameButNew ({ U with vm := s.vm } : State) locs k n) : s.heap.size ≤ U.heap.size ∧ ∀ q : Nat, q < s.heap.size → (∀ z ∈ locs, z.base ≠ q) → U.heap[q]? = s.heap[q]? := by
  obtain ⟨-, h2, -, -, -, h6⟩ := h
  refine ⟨h2, fun q hq hz => ?_⟩
  obtain ⟨c9, e1, e2, e3, e4⟩ := h6 q _ (Array.getElem?_eq_getElem hq)
  have hs : c9.slots = (s.heap[q]).slots := Array.ext_getElem? fun i => e4 i fun hm => hz _ hm rfl
  have h9 : c9 = s.heap[q] := by
    rw [hs] at e2
    exact e2
  have e5 : U.heap[q]? = some c9 := e1
  rw [e5, h9, Array.getElem?_eq_getElem hq]
/-- the words of a throw but the four that speak of the heap -/
def vx_no (w : Cond) : Bool := decide (w ≠ .isRef (.static Bundle.tN "UNASSIGNED_STACK" Bundle.steD)) && decide (w ≠ .isRef (.static Bundle.tN "SUPPRESSED_SENTINEL" Bundle.listD)) && decide (w ≠ .laysStatic Bundle.tN "UNASSIGNED_STACK" Bundle.steD) && decide (w ≠ .laysStatic Bundle.tN "SUPPRESSED_SENTINEL" Bundle.listD)
def vx_at0 (own : String) (ic : Nat) (X : String) (names : List String) : List Cond := (Bundle.ownAtoms0 own ic X names).filter vx_no
def vx_atS (own : String) (ic : Nat) (X : String) (names : List String) : List Cond := (Bundle.ownAtoms own ic X names).filter vx_no
/-- a word that the tables alone decide, or a good one -/
def vx_ot (w : Cond) : Bool := w.onTables || goodWord w
theorem vx_ot_at {args a' : Array Value} {s U : State} {w : Cond} (hW : s.WarmedH U.vm) (hvm : s.vm = U.vm) (hg : vx_ot w = true) (h : w.before args s = true) : w.before a' U = true := by
  simp only [vx_ot, Bool.or_eq_true] at hg
  rcases hg with hg | hg
  · exact va_tabs hg hvm h
  · exact word_at hW (good_of_word hg) h
/-- a list's words: the good ones out of the method's own list, the others by premises of their own -/
theorem vx_hat {args : Array Value} {s : State} {L B : List Cond} (h1 : ∀ w ∈ L.filter goodWord, w.before args s = true) (h2 : ∀ w ∈ L.filter (fun w => !goodWord w), w ∈ B) (h3 : ∀ w ∈ B, w.before args s = true) : ∀ w ∈ L, w.before args s = true := by
  intro w hw
  by_cases g : goodWord w = true
  · exact h1 w (List.mem_filter.mpr ⟨hw, g⟩)
  · refine h3 w (h2 w (List.mem_filter.mpr ⟨hw, ?_⟩))
    show (!goodWord w) = true
    cases hgw : goodWord w
    · rfl
    · exact absurd hgw g
theorem vx_c {args : Array Value} {s : State} {w : Cond} {B : List Cond} (h : w.before args s = true) (t : ∀ w ∈ B, w.before args s = true) : ∀ w' ∈ w :: B, w'.before args s = true := fun w' h' => (List.mem_cons.mp h').elim (fun e => by rw [e]; exact h) (t w')
theorem vx_n {args : Array Value} {s : State} : ∀ w ∈ ([] : List Cond), w.before args s = true := fun _ h => nomatch h
theorem vx_own {args : Array Value} {s : State} {L : List Cond} (h1 : ∀ w ∈ L.filter vx_no, w.before args s = true)
    (hU : (Cond.isRef (.static Bundle.tN "UNASSIGNED_STACK" Bundle.steD)).before args s = true) (hN : (Cond.isRef (.static Bundle.tN "SUPPRESSED_SENTINEL" Bundle.listD)).before args s = true)
    (lU : (Cond.laysStatic Bundle.tN "UNASSIGNED_STACK" Bundle.steD).before args s = true) (lN : (Cond.laysStatic Bundle.tN "SUPPRESSED_SENTINEL" Bundle.listD).before args s = true) : ∀ w ∈ L, w.before args s = true := by
  intro w hw
  by_cases e1 : w = .isRef (.static Bundle.tN "UNASSIGNED_STACK" Bundle.steD)
  · rw [e1]; exact hU
  · by_cases e2 : w = .isRef (.static Bundle.tN "SUPPRESSED_SENTINEL" Bundle.listD)
    · rw [e2]; exact hN
    · by_cases e3 : w = .laysStatic Bundle.tN "UNASSIGNED_STACK" Bundle.steD
      · rw [e3]; exact lU
      · by_cases e4 : w = .laysStatic Bundle.tN "SUPPRESSED_SENTINEL" Bundle.listD
        · rw [e4]; exact lN
        · exact h1 w (List.mem_filter.mpr ⟨hw, by unfold vx_no; rw [decide_eq_true e1, decide_eq_true e2, decide_eq_true e3, decide_eq_true e4]; rfl⟩)
/-- where a static field lies, its class's statics cell in H -/
def vx_L (C n d : String) (A : Nat → Prop) (U : State) (H : Heap) : Prop := ∃ (c : ClassId) (k : Class) (i : Nat) (f : Field) (a : Nat) (cell : Cell), U.vm.findClass C = some c ∧ U.fieldFound? C n d = some (c, k, i, f) ∧ f.isStatic = true ∧ k.statics = some a ∧ H[a]? = some cell ∧ cell.vm.isStatics = true ∧ cell.cls = c ∧ f.slot < cell.slots.size ∧ k.staticTypes[f.slot]? = some f.type ∧ ¬ A a
theorem vx_L.moved {C n d : String} {A : Nat → Prop} {u U : State} {H : Heap} (hvm : u.vm.Alike U.vm) (h : vx_L C n d A u H) : vx_L C n d A U H := by
  obtain ⟨c, k, i, f, a, cell, h1, h2, h3, h4, h5, h6, h7, h8, h9, h10⟩ := h
  obtain ⟨k', hi', he⟩ := State.fieldFound?_setVm hvm h2
  exact ⟨c, k', i, f, a, cell, by rw [hvm.findClass]; exact h1, hi', h3, by rw [he]; exact h4, h5, h6, h7, h8, by rw [he]; exact h9, h10⟩
theorem vx_L.kept {C n d : String} {A : Nat → Prop} {U : State} {H H1 : Heap} (h : vx_L C n d A U H) (hq : ∀ a : Nat, a < H.size → ¬ A a → H1[a]? = H[a]?) : vx_L C n d A U H1 := by
  obtain ⟨c, k, i, f, a, cell, h1, h2, h3, h4, h5, h6, h7, h8, h9, h10⟩ := h
  exact ⟨c, k, i, f, a, cell, h1, h2, h3, h4, by rw [hq a (Array.getElem?_eq_some_iff.mp h5).1 h10]; exact h5, h6, h7, h8, h9, h10⟩
theorem vx_L.narrow {C n d : String} {A B : Nat → Prop} {U : State} {H : Heap} (h : vx_L C n d A U H) (hAB : ∀ q, B q → A q) : vx_L C n d B U H := by
  obtain ⟨c, k, i, f, a, cell, h1, h2, h3, h4, h5, h6, h7, h8, h9, h10⟩ := h
  exact ⟨c, k, i, f, a, cell, h1, h2, h3, h4, h5, h6, h7, h8, h9, fun z => h10 (hAB _ z)⟩
theorem vx_L.word {C n d : String} {A : Nat → Prop} {s : State} {args : Array Value} (h : vx_L C n d A s s.heap) : (Cond.laysStatic C n d).before args s = true := by
  obtain ⟨c, k, i, f, a, cell, h1, h2, h3, h4, h5, h6, h7, h8, h9, -⟩ := h
  show (Cond.laysStatic C n d).holds args s none s [] = true
  exact Cond.laysStatic_of h1 h2 h3 h4 h5 h6 h7 h8 h9
/-- .. and what it holds: null or some reference -/
def vx_Zq (C n d : String) (A : Nat → Prop) (U : State) (H : Heap) : Prop := va_Zq C n d A U H ∧ vx_L C n d A U H
theorem vx_Zq.moved {C n d : String} {A : Nat → Prop} {u U : State} {H : Heap} (hvm : u.vm.Alike U.vm) (h : vx_Zq C n d A u H) : vx_Zq C n d A U H := ⟨va_Zq.moved hvm h.1, vx_L.moved hvm h.2⟩
theorem vx_Zq.kept {C n d : String} {A : Nat → Prop} {U : State} {H H1 : Heap} (h : vx_Zq C n d A U H) (hq : ∀ a : Nat, a < H.size → ¬ A a → H1[a]? = H[a]?) : vx_Zq C n d A U H1 := ⟨va_Zq.kept h.1 hq, vx_L.kept h.2 hq⟩
theorem vx_Zq.narrow {C n d : String} {A B : Nat → Prop} {U : State} {H : Heap} (h : vx_Zq C n d A U H) (hAB : ∀ q, B q → A q) : vx_Zq C n d B U H := ⟨va_Zq.narrow h.1 hAB, vx_L.narrow h.2 hAB⟩
theorem vx_Zqof {args : Array Value} {s : State} {C n d : String} {A : Nat → Prop} (hl : (Cond.laysStatic C n d).before args s = true) (hini : (Cond.initialized C).before args s = true) (h : (Cond.isRef (.static C n d)).before args s = true) (hA : ∀ a : Nat, a < s.heap.size → ¬ A a) : vx_Zq C n d A s s.heap := by
  refine ⟨va_Zqof hl hini h hA, ?_⟩
  obtain ⟨c, k, i, f, a, cell, h1, h2, h3, h4, h5, h6, h7, h8, h9⟩ := Cond.laysStatic_spec hl
  exact ⟨c, k, i, f, a, cell, h1, h2, h3, h4, h5, h6, h7, h8, h9, hA a (Array.getElem?_eq_some_iff.mp h5).1⟩
theorem vx_isRef {C n d : String} {v : Value} {A : Nat → Prop} {s : State} {args : Array Value} (h : va_Z C n d v A s s.heap) (hv : v.isRef = true) : (Cond.isRef (.static C n d)).before args s = true := by
  obtain ⟨cf, kf, fi, f, a, cell, h1, h2, h3, h4, h5, h6, h7, -⟩ := h
  have he : (Term.static C n d).eval args s none [] s = some v := by
    simp [Term.eval, State.fieldNamed?, h1, h2, h4, h5, h6, h7]
  simp only [Cond.before, Cond.holds, Cond.value, he]
  cases v <;> simp_all [Value.isRef]
theorem vx_isRefq {C n d : String} {A : Nat → Prop} {s : State} {args : Array Value} (h : va_Zq C n d A s s.heap) : (Cond.isRef (.static C n d)).before args s = true := by
  rcases h with h | ⟨t, h⟩
  · exact vx_isRef h rfl
  · exact vx_isRef h rfl
/-- the same frame, seen from here: as if the method were called anew in this heap -/
theorem vx_rebase {T : State} (X : Stand p l e R s m args below meth c T locs cells slots) {R' : Room} (hf : R'.frames ≤ R.frames) (hl : R'.locals ≤ R.locals) (hc : cells + R'.cells ≤ R.cells) (hs : slots + R'.slots ≤ R.slots) :
    Stand p l e R' ((T.setVm s.vm).setFrames (.invoking m args :: below)) m args below meth c T [] 0 0 := by
  have htop : (T.setVm s.vm).topJava?.isSome := X.here.top
  have hF : ((T.setVm s.vm).setFrames (.invoking m args :: below)).frames = .invoking m args :: below := State.frames_setFrames _ (State.cur_lt_of_top htop)
  obtain ⟨g₀, hg0⟩ := Option.isSome_iff_exists.mp htop
  obtain ⟨r, hr⟩ := State.topJava?_eq_some.mp hg0
  have hl9 : e.platform.stackLimits (T.setVm s.vm).me = e.platform.stackLimits s.me := X.limits
  have hb9 : (T.setVm s.vm).me.stackBytes = s.me.stackBytes := X.bytes
  refine ⟨X.admits, X.cas, X.clock, hF, ?_, X.hears, X.method, X.code, X.here, X.tail, X.warmed, ?_, ?_, ?_⟩
  · have h := X.room
    have hU : ((T.setVm s.vm).setFrames (.invoking m args :: below)).localsInUse = s.localsInUse := by
      rw [State.localsInUse_invoking hF (meth := meth) (c := c) X.method X.code, State.localsInUse_invoking X.frames X.method X.code]
    simp only [State.hasRoom, Bool.and_eq_true, decide_eq_true_eq] at h ⊢
    obtain ⟨⟨⟨⟨h1, h2, h3, h4, h5, h6⟩, h7⟩, h8⟩, h9⟩ := h
    rw [X.frames, List.length_cons] at h2 h3
    have q1 := X.heapSize
    have q2 := X.used
    simp only [hF, hU, List.length_cons, State.stackLimits_setFrames, State.stackBytes_setFrames, hl9, hb9]
    refine ⟨⟨⟨⟨by omega, by omega, by omega, by omega, by omega, h6⟩, ?_⟩, ?_⟩, X.book⟩
    · show T.heap.size + R'.cells ≤ e.platform.maxCells
      omega
    · show T.slotsUsed + R'.slots ≤ e.platform.maxSlots
      omega
  · rw [State.stackLimits_setFrames]; rfl
  · rw [State.stackBytes_setFrames]; rfl
  · refine ⟨?_, Nat.le_refl _, Nat.le_refl _, ?_, ?_, fun a c9 h9 => ⟨c9, h9, rfl, rfl, fun _ _ => rfl⟩⟩
    · obtain ⟨t, ht, -⟩ := State.frames_cons hr
      show T.setVm s.vm = { ((T.setVm s.vm).setFrames (.invoking m args :: below)).setFrames (T.setVm s.vm).frames with heap := T.heap, slotsUsed := T.slotsUsed }
      rw [State.setFrames_setFrames, State.setFrames_self ht]
      rfl
    · show T.slotsUsed = T.slotsUsed + ((T.heap.toList.drop T.heap.size).map (·.slots.size)).sum
      rw [List.drop_eq_nil_of_le (Nat.le_of_eq Array.length_toList)]
      rfl
    · show ((T.heap.toList.drop T.heap.size).map (·.slots.size)).sum ≤ 0
      rw [List.drop_eq_nil_of_le (Nat.le_of_eq Array.length_toList)]
      exact Nat.le_refl _
/-- 'throw new E()': new; dup; invokespecial; athrow -/
theorem vx_throw0 {cc : ByteArray} {pc : Nat} (hexec : p.tables.exec = Jvm.exec) (hb : c.code = cc) (hl : l.stackTraces = false) {own cls : String} {names : List String} {ik ic mc ms : Nat} {A : Nat → Prop}
    (hown : s.vm.findClass own = some m.cls) (hcls : Bundle.fit cls = true) (hnames : ∀ n ∈ names, Bundle.fit n = true)
    (hk : (Cond.classLink own ik cls).before args s = true) (hini : (Cond.initialized cls).before args s = true) (hat : ∀ w ∈ vx_at0 own ic cls names, w.before args s = true)
    (hgood : ∀ w ∈ Cond.classLink own ik cls :: Cond.initialized cls :: vx_at0 own ic cls names, vx_ot w = true)
    (hU : vx_Zq Bundle.tN "UNASSIGNED_STACK" Bundle.steD A s s.heap) (hN : vx_Zq Bundle.tN "SUPPRESSED_SENTINEL" Bundle.listD A s s.heap) (hS : va_S A s.heap H locs) (hsize : ls.size = c.maxLocals)
    (d0 : decode cc pc = .ok (.new ik, 3)) (d3 : decode cc (pc + 3) = .ok (.dup, 1)) (d4 : decode cc (pc + 4) = .ok (.invokespecial ic, 3)) (d7 : decode cc (pc + 7) = .ok (.athrow, 1))
    (hout : ∀ x ∈ c.exceptionTable.toList, covers x (pc + 7) = false)
    (hRframes : names.length + 3 < R.frames) (hRlocals : (rest.map fun v => v.category).sum + (13 * (names.length + 1) + 42) ≤ R.locals) (hRcells : cells + 1 ≤ R.cells) (hRslots : slots + 6 ≤ R.slots) (hlocks : meth.locks = false)
    (hx : ∀ t : State, s.vm.Alike t.vm → H.size ≤ t.heap.size → (∀ q : Nat, q < H.size → t.heap[q]? = H[q]?) → XC cls s t)
    (hf : ∀ z ∈ locs, free z.base) (hc : cells + 1 ≤ mc) (hs : slots + 6 ≤ ms) :
    W p l e R s m args below meth c H locs cells slots (vx_MQ below Qc XC args s mc ms free) (F0 m pc ls rest) := by
  intro T hT X
  have htr : e.platform.stackTraces = false := (show e.platform.stackTraces = l.stackTraces by rw [X.admits.platform]).trans hl
  have Y := vx_rebase X (R' := { frames := R.frames, locals := R.locals, cells := 1, slots := 6 }) (Nat.le_refl _) (Nat.le_refl _) hRcells hRslots
  obtain ⟨s', hA⟩ : ∃ z, z = (T.setVm s.vm).setFrames (.invoking m args :: below) := ⟨_, rfl⟩
  rw [← hA] at Y
  have hvm : s'.vm = s.vm := by rw [hA]; rfl
  have hhp : s'.heap = H := by rw [hA]; exact hT
  have hW0 : s.WarmedH s'.vm := by rw [hvm]; exact State.WarmedH.refl s
  have hat' : ∀ w ∈ vx_at0 own ic cls names, w.before args s' = true := fun w hw => vx_ot_at hW0 hvm.symm (hgood w (List.mem_cons_of_mem _ (List.mem_cons_of_mem _ hw))) (hat w hw)
  have hk' : (Cond.classLink own ik cls).before args s' = true := vx_ot_at hW0 hvm.symm (hgood _ List.mem_cons_self) hk
  have hini' : (Cond.initialized cls).before args s' = true := vx_ot_at hW0 hvm.symm (hgood _ (List.mem_cons_of_mem _ List.mem_cons_self)) hini
  have hU' : vx_Zq Bundle.tN "UNASSIGNED_STACK" Bundle.steD A s' s'.heap := by rw [hhp]; exact vx_Zq.moved hW0.alike (hU.kept hS.2.1)
  have hN' : vx_Zq Bundle.tN "SUPPRESSED_SENTINEL" Bundle.listD A s' s'.heap := by rw [hhp]; exact vx_Zq.moved hW0.alike (hN.kept hS.2.1)
  have h : ∀ w ∈ Bundle.ownAtoms0 own ic cls names, w.before args s' = true := vx_own hat' (vx_isRefq hU'.1) (vx_isRefq hN'.1) hU'.2.word hN'.2.word
  have hown' : s'.vm.findClass own = some m.cls := by rw [hvm]; exact hown
  have hins : (Cond.instantiable cls 6).before args s' = true := h _ (by simp [Bundle.ownAtoms0])
  obtain ⟨vm₁, cX, kX, hfX, hkX, -, -, X₁, st1⟩ := Y.newCold hexec (own := own) (C := cls) (index := ik) (n := 6) hown' hk' hins hini'
    (g := F0 m pc ls rest) rfl (by rw [hb]; exact d0) (Nat.le_refl _) (Nat.le_refl _)
  generalize hT1 : (T.setVm vm₁).pushCell { cls := cX, slots := kX.instanceTypes.map defaultValue, vm := .none } = T1 at X₁ st1
  have hcat : (Value.ref T.heap.size).category = 1 := rfl
  have hcellA : T1.heap[T.heap.size]? = some (freshCell cX kX) := by rw [← hT1]; exact State.heap_pushCell_size _ _
  have d3' : decode c.code (pc + 3) = .ok (.dup, 1) := by rw [hb]; exact d3
  obtain ⟨U, hsteps, hrun, hend, hW, hsame, ce, hce, hO⟩ := X₁.ctorThrow0 hexec htr (own := own) (cls := cls) (names := names) (ic := ic) hown' hcls hnames h (fun x hx => nomatch hx) hfX hkX hcellA (by rw [hhp, hT]; exact Nat.le_refl _)
    (g := { method := m, pc := pc + 4, locals := ls, stack := .ref T.heap.size :: .ref T.heap.size :: rest, locked := none }) rfl hsize rfl rfl (rest := rest) rfl
    (by rw [hb]; exact d4) (by rw [hb]; exact d7) hout hRframes (by simp only [List.map_cons, List.sum_cons, hcat]; omega) hlocks
  obtain ⟨f1, f2⟩ := vx_frame hsame
  rw [hhp] at f1 f2
  have hWs : s.WarmedH U.vm := State.WarmedH.trans hW0 hW
  have hcl : s.vm.findClass cls = some ce.cls := by
    have h9 := hO.cls
    rw [hvm] at h9
    exact h9
  have hall : s.sameButNew ({ U with vm := s.vm } : State) locs mc ms := by
    subst hA
    obtain ⟨e1, e2⟩ := hsame
    rw [State.setFrames_setFrames] at e1
    have h2 : (T.setVm s.vm).sameButNew ({ U with vm := s.vm } : State) [] (0 + 1) (0 + 6) := ⟨e1, e2⟩
    have h3 := X.same.trans h2
    rw [List.append_nil] at h3
    exact h3.mono hc hs
  refine ⟨U, ?_, .threw T.heap.size, hrun, hend, Or.inr ⟨T.heap.size, rfl, cls, ce, locs, hx U hWs.alike f1 (fun q hq => f2 q hq (fun z hz => nomatch hz)), hce, hO.vm, hcl, hWs, hall, hf⟩⟩
  refine st1 _ ?_
  show Steps p.tables e below (T1.setTop { method := m, pc := pc + 3, locals := ls, stack := .ref T.heap.size :: rest, locked := none }) _
  jvm_step X₁.here [X₁.here.top, hexec, d3', Value.category]
  exact hsteps
/-- 'throw new E("text")': new; dup; ldc; invokespecial; athrow -/
theorem vx_throwS {cc : ByteArray} {pc : Nat} (hexec : p.tables.exec = Jvm.exec) (hb : c.code = cc) (hl : l.stackTraces = false) {own cls text : String} {names : List String} {ik is ic mc ms sa : Nat} {A : Nat → Prop}
    (hown : s.vm.findClass own = some m.cls) (hcls : Bundle.fit cls = true) (hnames : ∀ n ∈ names, Bundle.fit n = true)
    (hk : (Cond.classLink own ik cls).before args s = true) (hini : (Cond.initialized cls).before args s = true) (hstr : vk_R own is text sa s) (hat : ∀ w ∈ vx_atS own ic cls names, w.before args s = true)
    (hgood : ∀ w ∈ Cond.classLink own ik cls :: Cond.initialized cls :: vx_atS own ic cls names, vx_ot w = true)
    (hU : vx_Zq Bundle.tN "UNASSIGNED_STACK" Bundle.steD A s s.heap) (hN : vx_Zq Bundle.tN "SUPPRESSED_SENTINEL" Bundle.listD A s s.heap) (hS : va_S A s.heap H locs) (hsize : ls.size = c.maxLocals)
    (d0 : decode cc pc = .ok (.new ik, 3)) (d3 : decode cc (pc + 3) = .ok (.dup, 1)) (d4 : decode cc (pc + 4) = .ok (.ldc is, 2)) (d6 : decode cc (pc + 6) = .ok (.invokespecial ic, 3)) (d9 : decode cc (pc + 9) = .ok (.athrow, 1))
    (hout : ∀ x ∈ c.exceptionTable.toList, covers x (pc + 9) = false)
    (hRframes : names.length + 3 < R.frames) (hRlocals : (rest.map fun v => v.category).sum + (13 * (names.length + 1) + 43) ≤ R.locals) (hRcells : cells + 1 ≤ R.cells) (hRslots : slots + 6 ≤ R.slots) (hlocks : meth.locks = false)
    (hx : ∀ t : State, s.vm.Alike t.vm → H.size ≤ t.heap.size → (∀ q : Nat, q < H.size → t.heap[q]? = H[q]?) → XC cls s t)
    (hf : ∀ z ∈ locs, free z.base) (hc : cells + 1 ≤ mc) (hs : slots + 6 ≤ ms) :
    W p l e R s m args below meth c H locs cells slots (vx_MQ below Qc XC args s mc ms free) (F0 m pc ls rest) := by
  intro T hT X
  have htr : e.platform.stackTraces = false := (show e.platform.stackTraces = l.stackTraces by rw [X.admits.platform]).trans hl
  have Y := vx_rebase X (R' := { frames := R.frames, locals := R.locals, cells := 1, slots := 6 }) (Nat.le_refl _) (Nat.le_refl _) hRcells hRslots
  obtain ⟨s', hA⟩ : ∃ z, z = (T.setVm s.vm).setFrames (.invoking m args :: below) := ⟨_, rfl⟩
  rw [← hA] at Y
  have hvm : s'.vm = s.vm := by rw [hA]; rfl
  have hhp : s'.heap = H := by rw [hA]; exact hT
  have hW0 : s.WarmedH s'.vm := by rw [hvm]; exact State.WarmedH.refl s
  have hat' : ∀ w ∈ vx_atS own ic cls names, w.before args s' = true := fun w hw => vx_ot_at hW0 hvm.symm (hgood w (List.mem_cons_of_mem _ (List.mem_cons_of_mem _ hw))) (hat w hw)
  have hk' : (Cond.classLink own ik cls).before args s' = true := vx_ot_at hW0 hvm.symm (hgood _ List.mem_cons_self) hk
  have hini' : (Cond.initialized cls).before args s' = true := vx_ot_at hW0 hvm.symm (hgood _ (List.mem_cons_of_mem _ List.mem_cons_self)) hini
  have hU' : vx_Zq Bundle.tN "UNASSIGNED_STACK" Bundle.steD A s' s'.heap := by rw [hhp]; exact vx_Zq.moved hW0.alike (hU.kept hS.2.1)
  have hN' : vx_Zq Bundle.tN "SUPPRESSED_SENTINEL" Bundle.listD A s' s'.heap := by rw [hhp]; exact vx_Zq.moved hW0.alike (hN.kept hS.2.1)
  have h : ∀ w ∈ Bundle.ownAtoms own ic cls names, w.before args s' = true := vx_own hat' (vx_isRefq hU'.1) (vx_isRefq hN'.1) hU'.2.word hN'.2.word
  have hown' : s'.vm.findClass own = some m.cls := by rw [hvm]; exact hown
  have hins : (Cond.instantiable cls 6).before args s' = true := h _ (by simp [Bundle.ownAtoms])
  obtain ⟨vm₁, cX, kX, hfX, hkX, -, -, X₁, st1⟩ := Y.newCold hexec (own := own) (C := cls) (index := ik) (n := 6) hown' hk' hins hini'
    (g := F0 m pc ls rest) rfl (by rw [hb]; exact d0) (Nat.le_refl _) (Nat.le_refl _)
  generalize hT1 : (T.setVm vm₁).pushCell { cls := cX, slots := kX.instanceTypes.map defaultValue, vm := .none } = T1 at X₁ st1
  have hcat : (Value.ref T.heap.size).category = 1 := rfl
  have hcellA : T1.heap[T.heap.size]? = some (freshCell cX kX) := by rw [← hT1]; exact State.heap_pushCell_size _ _
  have d3' : decode c.code (pc + 3) = .ok (.dup, 1) := by rw [hb]; exact d3
  have d4' : decode c.code (pc + 4) = .ok (.ldc is, 2) := by rw [hb]; exact d4
  have hstr' : vk_R own is text sa s' := vk_R.warm hW0 hstr
  obtain ⟨U, hsteps, hrun, hend, hW, hsame, ce, hce, hO⟩ := X₁.ctorThrowS hexec htr (own := own) (cls := cls) (names := names) (ic := ic) hown' hcls hnames h (fun x hx => nomatch hx) hfX hkX hcellA (by rw [hhp, hT]; exact Nat.le_refl _) (msg := .ref sa) rfl
    (g := { method := m, pc := pc + 6, locals := ls, stack := .ref sa :: .ref T.heap.size :: .ref T.heap.size :: rest, locked := none }) rfl hsize rfl rfl (rest := rest) rfl
    (by rw [hb]; exact d6) (by rw [hb]; exact d9) hout hRframes (by simp only [List.map_cons, List.sum_cons, hcat]; omega) hlocks
  obtain ⟨f1, f2⟩ := vx_frame hsame
  rw [hhp] at f1 f2
  have hWs : s.WarmedH U.vm := State.WarmedH.trans hW0 hW
  have hcl : s.vm.findClass cls = some ce.cls := by
    have h9 := hO.cls
    rw [hvm] at h9
    exact h9
  have hall : s.sameButNew ({ U with vm := s.vm } : State) locs mc ms := by
    subst hA
    obtain ⟨e1, e2⟩ := hsame
    rw [State.setFrames_setFrames] at e1
    have h2 : (T.setVm s.vm).sameButNew ({ U with vm := s.vm } : State) [] (0 + 1) (0 + 6) := ⟨e1, e2⟩
    have h3 := X.same.trans h2
    rw [List.append_nil] at h3
    exact h3.mono hc hs
  refine ⟨U, ?_, .threw T.heap.size, hrun, hend, Or.inr ⟨T.heap.size, rfl, cls, ce, locs, hx U hWs.alike f1 (fun q hq => f2 q hq (fun z hz => nomatch hz)), hce, hO.vm, hcl, hWs, hall, hf⟩⟩
  refine st1 _ ?_
  show Steps p.tables e below (T1.setTop { method := m, pc := pc + 3, locals := ls, stack := .ref T.heap.size :: rest, locked := none }) _
  jvm_step X₁.here [X₁.here.top, hexec, d3', Value.category]
  exact X₁.ldcString hexec (own := own) (text := text) (index := is) (a := sa) hown' hstr'.1 hstr'.2
    (g := { method := m, pc := pc + 4, locals := ls, stack := .ref T.heap.size :: .ref T.heap.size :: rest, locked := none }) rfl d4' _ hsteps
/-- 'throw new E("text")', the text by a wide index -/
theorem vx_throwSW {cc : ByteArray} {pc : Nat} (hexec : p.tables.exec = Jvm.exec) (hb : c.code = cc) (hl : l.stackTraces = false) {own cls text : String} {names : List String} {ik is ic mc ms sa : Nat} {A : Nat → Prop}
    (hown : s.vm.findClass own = some m.cls) (hcls : Bundle.fit cls = true) (hnames : ∀ n ∈ names, Bundle.fit n = true)
    (hk : (Cond.classLink own ik cls).before args s = true) (hini : (Cond.initialized cls).before args s = true) (hstr : vk_R own is text sa s) (hat : ∀ w ∈ vx_atS own ic cls names, w.before args s = true)
    (hgood : ∀ w ∈ Cond.classLink own ik cls :: Cond.initialized cls :: vx_atS own ic cls names, vx_ot w = true)
    (hU : vx_Zq Bundle.tN "UNASSIGNED_STACK" Bundle.steD A s s.heap) (hN : vx_Zq Bundle.tN "SUPPRESSED_SENTINEL" Bundle.listD A s s.heap) (hS : va_S A s.heap H locs) (hsize : ls.size = c.maxLocals)
    (d0 : decode cc pc = .ok (.new ik, 3)) (d3 : decode cc (pc + 3) = .ok (.dup, 1)) (d4 : decode cc (pc + 4) = .ok (.ldc_w is, 3)) (d7 : decode cc (pc + 7) = .ok (.invokespecial ic, 3)) (d10 : decode cc (pc + 10) = .ok (.athrow, 1))
    (hout : ∀ x ∈ c.exceptionTable.toList, covers x (pc + 10) = false)
    (hRframes : names.length + 3 < R.frames) (hRlocals : (rest.map fun v => v.category).sum + (13 * (names.length + 1) + 43) ≤ R.locals) (hRcells : cells + 1 ≤ R.cells) (hRslots : slots + 6 ≤ R.slots) (hlocks : meth.locks = false)
    (hx : ∀ t : State, s.vm.Alike t.vm → H.size ≤ t.heap.size → (∀ q : Nat, q < H.size → t.heap[q]? = H[q]?) → XC cls s t)
    (hf : ∀ z ∈ locs, free z.base) (hc : cells + 1 ≤ mc) (hs : slots + 6 ≤ ms) :
    W p l e R s m args below meth c H locs cells slots (vx_MQ below Qc XC args s mc ms free) (F0 m pc ls rest) := by
  intro T hT X
  have htr : e.platform.stackTraces = false := (show e.platform.stackTraces = l.stackTraces by rw [X.admits.platform]).trans hl
  have Y := vx_rebase X (R' := { frames := R.frames, locals := R.locals, cells := 1, slots := 6 }) (Nat.le_refl _) (Nat.le_refl _) hRcells hRslots
  obtain ⟨s', hA⟩ : ∃ z, z = (T.setVm s.vm).setFrames (.invoking m args :: below) := ⟨_, rfl⟩
  rw [← hA] at Y
  have hvm : s'.vm = s.vm := by rw [hA]; rfl
  have hhp : s'.heap = H := by rw [hA]; exact hT
  have hW0 : s.WarmedH s'.vm := by rw [hvm]; exact State.WarmedH.refl s
  have hat' : ∀ w ∈ vx_atS own ic cls names, w.before args s' = true := fun w hw => vx_ot_at hW0 hvm.symm (hgood w (List.mem_cons_of_mem _ (List.mem_cons_of_mem _ hw))) (hat w hw)
  have hk' : (Cond.classLink own ik cls).before args s' = true := vx_ot_at hW0 hvm.symm (hgood _ List.mem_cons_self) hk
  have hini' : (Cond.initialized cls).before args s' = true := vx_ot_at hW0 hvm.symm (hgood _ (List.mem_cons_of_mem _ List.mem_cons_self)) hini
  have hU' : vx_Zq Bundle.tN "UNASSIGNED_STACK" Bundle.steD A s' s'.heap := by rw [hhp]; exact vx_Zq.moved hW0.alike (hU.kept hS.2.1)
  have hN' : vx_Zq Bundle.tN "SUPPRESSED_SENTINEL" Bundle.listD A s' s'.heap := by rw [hhp]; exact vx_Zq.moved hW0.alike (hN.kept hS.2.1)
  have h : ∀ w ∈ Bundle.ownAtoms own ic cls names, w.before args s' = true := vx_own hat' (vx_isRefq hU'.1) (vx_isRefq hN'.1) hU'.2.word hN'.2.word
  have hown' : s'.vm.findClass own = some m.cls := by rw [hvm]; exact hown
  have hins : (Cond.instantiable cls 6).before args s' = true := h _ (by simp [Bundle.ownAtoms])
  obtain ⟨vm₁, cX, kX, hfX, hkX, -, -, X₁, st1⟩ := Y.newCold hexec (own := own) (C := cls) (index := ik) (n := 6) hown' hk' hins hini'
    (g := F0 m pc ls rest) rfl (by rw [hb]; exact d0) (Nat.le_refl _) (Nat.le_refl _)
  generalize hT1 : (T.setVm vm₁).pushCell { cls := cX, slots := kX.instanceTypes.map defaultValue, vm := .none } = T1 at X₁ st1
  have hcat : (Value.ref T.heap.size).category = 1 := rfl
  have hcellA : T1.heap[T.heap.size]? = some (freshCell cX kX) := by rw [← hT1]; exact State.heap_pushCell_size _ _
  have d3' : decode c.code (pc + 3) = .ok (.dup, 1) := by rw [hb]; exact d3
  have d4' : decode c.code (pc + 4) = .ok (.ldc_w is, 3) := by rw [hb]; exact d4
  have hstr' : vk_R own is text sa s' := vk_R.warm hW0 hstr
  obtain ⟨U, hsteps, hrun, hend, hW, hsame, ce, hce, hO⟩ := X₁.ctorThrowS hexec htr (own := own) (cls := cls) (names := names) (ic := ic) hown' hcls hnames h (fun x hx => nomatch hx) hfX hkX hcellA (by rw [hhp, hT]; exact Nat.le_refl _) (msg := .ref sa) rfl
    (g := { method := m, pc := pc + 7, locals := ls, stack := .ref sa :: .ref T.heap.size :: .ref T.heap.size :: rest, locked := none }) rfl hsize rfl rfl (rest := rest) rfl
    (by rw [hb]; exact d7) (by rw [hb]; exact d10) hout hRframes (by simp only [List.map_cons, List.sum_cons, hcat]; omega) hlocks
  obtain ⟨f1, f2⟩ := vx_frame hsame
  rw [hhp] at f1 f2
  have hWs : s.WarmedH U.vm := State.WarmedH.trans hW0 hW
  have hcl : s.vm.findClass cls = some ce.cls := by
    have h9 := hO.cls
    rw [hvm] at h9
    exact h9
  have hall : s.sameButNew ({ U with vm := s.vm } : State) locs mc ms := by
    subst hA
    obtain ⟨e1, e2⟩ := hsame
    rw [State.setFrames_setFrames] at e1
    have h2 : (T.setVm s.vm).sameButNew ({ U with vm := s.vm } : State) [] (0 + 1) (0 + 6) := ⟨e1, e2⟩
    have h3 := X.same.trans h2
    rw [List.append_nil] at h3
    exact h3.mono hc hs
  refine ⟨U, ?_, .threw T.heap.size, hrun, hend, Or.inr ⟨T.heap.size, rfl, cls, ce, locs, hx U hWs.alike f1 (fun q hq => f2 q hq (fun z hz => nomatch hz)), hce, hO.vm, hcl, hWs, hall, hf⟩⟩
  refine st1 _ ?_
  show Steps p.tables e below (T1.setTop { method := m, pc := pc + 3, locals := ls, stack := .ref T.heap.size :: rest, locked := none }) _
  jvm_step X₁.here [X₁.here.top, hexec, d3', Value.category]
  exact X₁.ldcStringW hexec (own := own) (text := text) (index := is) (a := sa) hown' hstr'.1 hstr'.2
    (g := { method := m, pc := pc + 4, locals := ls, stack := .ref T.heap.size :: .ref T.heap.size :: rest, locked := none }) rfl d4' _ hsteps
end Ends
section Bodies
variable {l : Launch}
theorem vx_ofW {y : MethodName} {ws ws' : List Cond} {rm : Room} {Pc : Array Value → State → Prop} {Qc : Array Value → State → Outcome → State → Prop} {XC : String → State → State → Prop} {mc ms : Nat} {free : Addr → Prop} {cc : ByteArray} {maxL : Nat} {ret : Option FieldType}
    (hy : plainName y.cls = true) (hw : ws = Cond.code y cc maxL ret :: ws')
    (body : ∀ p e s m args below meth c s₁, BodyLoose p l y (headSpec ws rm) cc maxL ret e s m args below meth c s₁ → c.maxLocals = maxL → (∀ x ∈ c.exceptionTable.toList, False) → Pc args s →
      W p l e (headSpec ws rm).room s m args below meth c s.heap [] 0 0 (vx_MQ below Qc XC args s mc ms free) (entryFrame m args maxL)) : vx_Met l y ws rm Pc Qc XC mc ms free := by
  refine MetFree.of_bodyS (code := cc) (maxLocals := maxL) (ret := ret) hy ?_ ?_
  · intro args s m h hn
    obtain ⟨meth, c, h1, h2, h3, h4, h5, h6, -, -⟩ := Cond.code_spec hn (atoms_spec (ws := ws) h _ (by rw [hw]; exact List.mem_cons_self))
    exact ⟨meth, c, h1, h2, h3, h4, h5, h6⟩
  · intro p e s m args below meth c s₁ B hml hP _
    have hh0 : s₁.heap = s.heap := by rw [B.state]; rfl
    have ht : ∀ x ∈ c.exceptionTable.toList, False := by
      obtain ⟨meth9, c9, h1, h2, -, -, -, -, h7, -⟩ := Cond.code_spec B.named (atoms_spec (ws := ws) B.pre _ (by rw [hw]; exact List.mem_cons_self))
      cases Option.some.inj (h1.symm.trans B.method)
      cases Option.some.inj (h2.symm.trans (Stand.of_body B).code)
      intro x hx
      rw [Array.isEmpty_iff.mp h7] at hx
      cases hx
    obtain ⟨t, a1, o, b1, b2, b3⟩ := body p e s m args below meth c s₁ B hml ht hP s₁ hh0 (Stand.of_body B)
    exact ⟨t, o, a1, b1, b2, b3⟩
/-- the table of a body with handlers -/
theorem vx_table {p : Program} {x y : MethodName} {S : Spec} {cc bytes : ByteArray} {maxL maxL' : Nat} {ret ret' : Option FieldType} {e : Env} {s s₁ : State} {m : MethodId} {args : Array Value} {below : List Frame} {meth : Method} {c : Code} {hh : List (Nat × Nat × Nat × Nat)}
    (B : BodyLoose p l y S cc maxL ret e s m args below meth c s₁) (h : (Cond.codeWith y bytes maxL' ret' hh).before args s = true) : c.exceptionTable.toList = tableOf hh := by
  obtain ⟨m9, meth9, c9, hn9, h1, h2, -, -, h6, -⟩ := Cond.codeWith_spec h
  cases Option.some.inj (hn9.symm.trans B.named)
  cases Option.some.inj (h1.symm.trans B.method)
  cases Option.some.inj (h2.symm.trans (Stand.of_body B).code)
  rw [← h6, table_eq]
end Bodies
end VXA
/-! ===== END ===== -/
/-! ===== BEGIN a static call of a method with an exception table ===== -/
section VXS
variable {p : Program} {l : Launch} {e : Env} {R : Room} {s : State} {m : MethodId} {args : Array Value} {below : List Frame} {meth : Method} {c : Code} {T : State} {H : Heap} {locs : List Loc} {cells slots : Nat}
abbrev vx_CSW (R : Room) (s : State) (args : Array Value) (own : String) (index : Nat) (y : MethodName) (bytes : ByteArray) (maxL : Nat) (ret : Option FieldType) (hh : List (Nat × Nat × Nat × Nat)) (ws : List Cond) (rm : Room) (mc ms n : Nat) : Prop :=
  (rm.cells = mc ∧ rm.slots = ms ∧ rm.frames + 1 ≤ R.frames ∧ 8 + (maxL + 11) + rm.locals ≤ R.locals ∧ (∀ w ∈ ws, ∀ (a' : Array Value) (U : State), s.WarmedH U.vm → w.before a' U = true) ∧ Cond.codeWith y bytes maxL ret hh ∈ ws) ∧
  (Cond.codeWith y bytes maxL ret hh).before args s = true ∧ (Cond.initialized y.cls).before args s = true ∧ (y.cls ≠ "java/lang/invoke/MethodHandle" ∧ y.cls ≠ "java/lang/invoke/VarHandle") ∧
  (∀ sig, parseMethodDescriptor y.desc = some sig → n = sig.parameters.length) ∧ (Cond.methodLink own index y).before args s = true ∧ (Cond.static y).before args s = true
theorem vx_cwSW {own : String} {index maxL mc ms : Nat} {y : MethodName} {bytes : ByteArray} {ret : Option FieldType} {hh : List (Nat × Nat × Nat × Nat)} {Ts ws ws' : List Cond} {rm : Room} (n : Nat) (ht : ∀ w ∈ Ts, w.before args s = true) (hT : GoodIn Ts (va_wsS own index y ws)) (hw : ws = Cond.codeWith y bytes maxL ret hh :: ws') (hrc : rm.cells = mc) (hrs : rm.slots = ms)
    (hd : y.cls ≠ "java/lang/invoke/MethodHandle" ∧ y.cls ≠ "java/lang/invoke/VarHandle" ∧ (parseMethodDescriptor y.desc).map (fun d => d.parameters.length) = some n) (hR : rm.frames + 1 ≤ R.frames ∧ 8 + (maxL + 11) + rm.locals ≤ R.locals) :
    vx_CSW R s args own index y bytes maxL ret hh ws rm mc ms n := by
  have ok : ∀ w ∈ va_wsS own index y ws, w.before args s = true := fun w h => ht w (hT w h).1
  have hG : GoodIn Ts ws := fun w h => hT w (by unfold va_wsS; exact List.mem_append_right _ h)
  have hc : Cond.codeWith y bytes maxL ret hh ∈ ws := by rw [hw]; exact List.mem_cons_self
  refine ⟨⟨hrc, hrs, hR.1, hR.2, pay_in ht hG, hc⟩, ht _ (hG _ hc).1, ok _ (by simp [va_wsS]), ⟨hd.1, hd.2.1⟩, fun sig h => ?_, ok _ (by simp [va_wsS]), ok _ (by simp [va_wsS])⟩
  have h2 := hd.2.2
  rw [h] at h2
  exact (Option.some.inj h2).symm
theorem vx_callSW (X : Stand p l e R s m args below meth c T locs cells slots) (hexec : p.tables.exec = Jvm.exec) {own : String} {index : Nat} {y : MethodName} {bytes : ByteArray} {maxL : Nat} {ret : Option FieldType} {hh : List (Nat × Nat × Nat × Nat)}
    (hown : s.vm.findClass own = some m.cls) (hlink : (Cond.methodLink own index y).before args s = true) (hstat : (Cond.static y).before args s = true) (hinit : (Cond.initialized y.cls).before args s = true)
    (hcode : (Cond.codeWith y bytes maxL ret hh).before args s = true) (hy : y.cls ≠ "java/lang/invoke/MethodHandle" ∧ y.cls ≠ "java/lang/invoke/VarHandle")
    {W9 : Nat} {Pre : Pt → Array Value → Prop} {Post : Pt → Array Value → Option Value → Pt → Prop} (hK : Back l R p e below s args y 3 W9 Pre Post)
    {g : JFrame} (hg : g.method = m) (hsize : g.locals.size = c.maxLocals) {argsL rest : List Value} (hlen : ∀ sig, parseMethodDescriptor y.desc = some sig → argsL.length = sig.parameters.length)
    (hstack : g.stack = argsL.reverse ++ rest) (hW : 2 * g.monitorRoom + (rest.map fun v => v.category).sum ≤ W9) (hdg : decode c.code g.pc = .ok (.invokestatic index, 3))
    (hpre : ∀ vm₁, s.WarmedH vm₁ → Pre ⟨T.setVm vm₁, locs, cells, slots⟩ argsL.toArray) :
    ∃ (v : Option Value) (vm₁ : Vm) (B : Pt), s.WarmedH vm₁ ∧ Stand p l e R s m args below meth c B.U B.locs B.cells B.slots ∧ Post ⟨T.setVm vm₁, locs, cells, slots⟩ argsL.toArray v B ∧
      ∀ target, Steps p.tables e below (B.U.setTop { g with pc := g.pc + 3, stack := v.toList ++ rest }) target → Steps p.tables e below (T.setTop g) target := by
  obtain ⟨mk, methM, cM, hnamed, hmethM, -, -, -, -, -, -, hsigM⟩ := Cond.codeWith_spec hcode
  have hstatic : methM.isStatic = true := Cond.static_spec hnamed hmethM hstat
  obtain ⟨kP, hkP, -⟩ := className_of_methodNamed hnamed
  have hinitP : kP.init = .initialized := Cond.initialized_spec (findClass_of_methodNamed hnamed) hkP hinit
  obtain ⟨vm₁, X₁, hstep₁⟩ := X.invokestatic hexec hown hlink hnamed hmethM hstatic hkP hinitP hy (g := g) hg (argsL := argsL) (rest := rest) (hlen _ hsigM) hstack hdg
  obtain ⟨v, B, X', hpost, hsteps⟩ := hK m meth c ⟨T.setVm vm₁, locs, cells, slots⟩ { g with stack := rest } (.invokestatic index) mk argsL.toArray X₁ hg hsize hdg hW (X₁.named hnamed) (hpre vm₁ X₁.warmed)
  exact ⟨v, vm₁, B, X₁.warmed, X', hpost, fun target h => hstep₁ _ fun acts => by rw [doInvoke_state]; exact hsteps.trans h⟩
theorem vx_runSW {y : MethodName} {bytes cc : ByteArray} {maxL nL mc ms n index : Nat} {ret : Option FieldType} {hh : List (Nat × Nat × Nat × Nat)} {ws : List Cond} {rm : Room} {Pc : Array Value → State → Prop} {Qc : Array Value → State → Outcome → State → Prop} {free : Addr → Prop} {Ts : List Cond} {own : String} {As rest : List Value} {g : JFrame}
    (S : CallFix p m c cc nL s args Ts own) (hM : Met l y ws rm Pc Qc mc ms free) (cw : vx_CSW R s args own index y bytes maxL ret hh ws rm mc ms n) (hp : PreS s H Pc As)
    (hg : g.method = m) (hn : As.length = n) (hsize : g.locals.size = nL) (hstack : g.stack = As.reverse ++ rest) (hW : 2 * g.monitorRoom + (rest.map fun v => v.category).sum ≤ 8) (hdg : decode cc g.pc = .ok (.invokestatic index, 3)) (hf : cells + mc ≤ R.cells ∧ slots + ms ≤ R.slots) :
    va_Run p l e R s m args below meth c H locs cells slots mc ms g rest (Qc As.toArray) (free) := by
  obtain ⟨⟨hrc, hrs, hfr, hlo, hws, hcw⟩, hcode, hini, hy, hlen, hl, hstt⟩ := cw
  have hK : Back l R p e below s args y 3 8 (PreOf R mc ms Pc) (PostOf Qc mc ms free) := va_backW (hh := hh) (bytes := bytes) (maxL := maxL) (ret := ret) hM hp.1 hrc hrs hfr hlo hws hcw (fun a' U hW => word_at hW (Or.inl (by first | rfl | simp [Cond.onTables, Cond.keeps, Cond.steady])) hini)
  obtain ⟨hx, hb, hml, ho, -⟩ := S
  intro T hT X
  obtain ⟨v, vm₁, ⟨U', l2, c2, s2⟩, hW₁, X', ⟨g', mk, t, L, e1, e2, hq, h1, hL, h2, h3⟩, st⟩ := vx_callSW X hx (hh := hh) (bytes := bytes) (maxL := maxL) (ret := ret) ho hl hstt hini hcode hy hK hg (hsize.trans hml.symm) (argsL := As) (rest := rest) (fun sig h => hn.trans (hlen sig h)) hstack hW (by rw [hb]; exact hdg)
    (fun vm₁ hW₁ => ⟨hf.1, hf.2, hp.2 (T.setVm vm₁) hT hW₁⟩)
  dsimp only [Pt.U, Pt.locs, Pt.cells, Pt.slots] at X' e1 e2 h1 h2 h3 st
  subst h1; subst h2; subst h3
  exact ⟨v, (T.setVm vm₁).calling g' mk As.toArray, t, U', L, hT, X', hL, e1, e2, hq, st⟩
/-- not caught here, past rows that name other classes: it goes on to the caller -/
theorem vx_outP {p : Program} {l : Launch} {e : Env} {R : Room} {s : State} {m : MethodId} {args : Array Value} {below : List Frame} {meth : Method} {c : Code} {H : Heap} {locs : List Loc} {cells slots : Nat} {free : Addr → Prop} {ls : Array Slot} {rest : List Value} {Qc : Array Value → State → Outcome → State → Prop} {XC : String → State → State → Prop}
    {pc : Nat} {own E : String} {ce : Cell} {q : Addr} {mc ms : Nat} (hown : s.vm.findClass own = some m.cls) (hlocks : meth.locks = false)
    (hpass : ∀ z ∈ c.exceptionTable.toList, covers z pc = false ∨ (z.catchType ≠ 0 ∧ ∃ nm : String, (Cond.classLink own z.catchType nm).before args s = true ∧ va_Nc E nm s)) (hcell : H[q]? = some ce) (hv : ce.vm = .none) (hcl : s.vm.findClass E = some ce.cls)
    (hx : ∀ t : State, t.heap = H → s.vm.Alike t.vm → XC E s t) (hf : ∀ z ∈ locs, free z.base) (hc : cells ≤ mc) (hs : slots ≤ ms) :
    vx_W p l e R s m args below meth c H locs cells slots (vx_MQ below Qc XC args s mc ms free) (F0 m pc ls rest) q := by
  intro T hT X
  have hpl : e.platform.magicAccessors = ({} : Platform).magicAccessors := by rw [X.admits.platform]
  obtain ⟨vm', hW', X', st⟩ := X.outThrough hlocks q (g := F0 m pc ls rest) rfl rfl rfl (cell := ce) (by rw [hT]; exact hcell) (by rw [hv]; rfl)
    (by obtain ⟨k9, h9, -⟩ := Vm.findClass_spec hcl; exact ⟨k9, h9⟩) (fun z hz => by
      rcases hpass z hz with h | ⟨hz0, nm, hl1, hn1⟩
      · exact Or.inl h
      · obtain ⟨c6, hc6, hcl6⟩ := Cond.classLink_spec hown hl1 e.platform hpl
        obtain ⟨a8, b8, h1, h2, h3⟩ := hn1
        cases Option.some.inj (h1.symm.trans hcl)
        cases Option.some.inj (h2.symm.trans hc6)
        exact Or.inr ⟨hz0, _, hcl6, h3⟩)
  obtain ⟨g₀, hfr⟩ := X'.frames_eq
  have hcell9 : ((T.setVm vm').setFrames (.throwing q :: below)).heap[q]? = some ce := by
    show T.heap[q]? = some ce
    rw [hT]; exact hcell
  have hend : Ended ((T.setVm vm').setFrames (.throwing q :: below)) below (.threw q) := State.frames_setFrames _ (State.cur_lt_of_frames hfr)
  refine ⟨(T.setVm vm').setFrames (.throwing q :: below), ?_, .threw q, X'.here.running, hend, Or.inr ⟨q, rfl, E, ce, locs, hx _ hT (X'.ends _).1.alike, hcell9, hv, hcl, (X'.ends _).1, (X'.ends _).2.mono hc hs, hf⟩⟩
  rw [X.pushThrowing_eq]
  exact st
/-- a thing of a world lies in the heap -/
theorem vx_lt {D : va_G} {cl : List vw_C} {ws : va_W} {H1 : Heap} (h : va_P D cl ws H1) {k : Nat} {q : Nat × va_E} (hk : ws[k]? = some q) : q.1 < H1.size := (h k q hk).lt
end VXS
/-! ===== END ===== -/
/-! ===== BEGIN methods with a table of their own: called by a name, returning or throwing ===== -/
section VXH
/-! vx_backW, vx_callVX, vx_callSX, vx_callVW, vx_runVW, vx_runVX, vx_runSX, vx_ofWH follow the same proofs as their sisters above (Free/Laws.lean, Shelf42/LK1.lean); vx_outP calls Shelf42/NT130.lean (outThrough). -/
section
variable {l : Launch} {R : Room} {p : Program} {e : Env} {below : List Frame} {s : State} {sargs : Array Value} {y : MethodName} {len W9 : Nat}
theorem vx_backW {ws : List Cond} {rm : Room} {Pc : Array Value → State → Prop} {Qc : Array Value → State → Outcome → State → Prop} {XC : String → State → State → Prop} {mc ms : Nat} {free : Addr → Prop} {bytes : ByteArray} {maxL : Nat} {ret : Option FieldType} {hh : List (Nat × Nat × Nat × Nat)}
    (hM : vx_Met l y ws rm Pc Qc XC mc ms free) (hblind : FrameBlind Pc) (hrc : rm.cells = mc) (hrs : rm.slots = ms)
    (hframes : rm.frames + 1 ≤ R.frames) (hlocals : W9 + (maxL + 11) + rm.locals ≤ R.locals)
    (hws : ∀ w ∈ ws, ∀ a' U, s.WarmedH U.vm → w.before a' U = true) (hcode : Cond.codeWith y bytes maxL ret hh ∈ ws) (hinit : ∀ a' U, s.WarmedH U.vm → (Cond.initialized y.cls).before a' U = true) :
    vx_Back l R p e below s sargs y len W9 (PreOf R mc ms Pc) (PostOf Qc mc ms free) (vx_Post XC mc ms free) := by
  intro m meth c A g ig mk a X hg hsize hdg hW hn hp
  have h1 : (headSpec ws rm).pre.before a A.U = true := atoms_intro fun w hw => hws w hw _ _ X.warmed
  have h2 : (Cond.codeWith y bytes maxL ret hh).before a A.U = true := hws _ hcode _ _ X.warmed
  have h3 : (Cond.initialized y.cls).before a A.U = true := hinit _ _ X.warmed
  have h4 : A.cells + (headSpec ws rm).room.cells ≤ R.cells := by rw [show (headSpec ws rm).room.cells = mc from hrc]; exact hp.1
  have h5 : A.slots + (headSpec ws rm).room.slots ≤ R.slots := by rw [show (headSpec ws rm).room.slots = ms from hrs]; exact hp.2.1
  have hPc : Pc a (A.U.calling g mk a) := hblind _ _ _ _ hp.2.2
  obtain ⟨U, Ls, c0, s0⟩ := A
  dsimp only [Pt.U, Pt.locs, Pt.cells, Pt.slots] at h1 h2 h3 h4 h5 X hn hPc ⊢
  obtain ⟨m9, methY, cY, hn9, hmY, hcY, -, hlY, -⟩ := Cond.codeWith_spec h2
  cases Option.some.inj (hn9.symm.trans hn)
  obtain ⟨kY, hkY, -⟩ := className_of_methodNamed hn
  have hinitY : kY.init = .initialized := Cond.initialized_spec (findClass_of_methodNamed hn) hkY h3
  have h : At U g.method c below := by rw [hg]; exact X.here
  have hlocals9 : W9 + (maxL + 11) + (headSpec ws rm).room.locals ≤ R.locals := hlocals
  have happ : (headSpec ws rm).appliesLoose y e.platform (U.calling g mk a) = true :=
    Spec.appliesLoose_calling (g := g) h hdg hn hkY hinitY
      (X.room_calling (g := g) (R' := (headSpec ws rm).room) hsize hmY hcY hframes (by rw [hlY]; omega) h4 h5) h1
  obtain ⟨mid, hmid⟩ := h.above
  have hfr : (U.setTop g).frames = (.java g :: mid) ++ below := by rw [State.frames_setTop' g h.top, hmid]; rfl
  obtain ⟨o, s₂, hsteps, -, hend, hq⟩ := Steps.callFree hM p X.admits X.cas X.clock (acts := []) hfr happ hPc trivial
  have hq' : vx_Q Qc XC mc ms free a (U.calling g mk a) o s₂ := hq
  rw [State.frames_setTop' g h.top] at hend
  obtain ⟨g₀, hg0⟩ := Option.isSome_iff_exists.mp h.top
  obtain ⟨r, hr⟩ := State.topJava?_eq_some.mp hg0
  have hr' : (({ U with heap := s₂.heap, slotsUsed := s₂.slotsUsed } : State).setVm s₂.vm).frames = .java g₀ :: r := hr
  rcases hq' with ⟨hqc, L, hfe, hL⟩ | ⟨q, rfl, E, ce, L, hx, hce, hcv, hcl, hW₂, hsm, hL⟩
  · obtain ⟨⟨v, rfl⟩, hW₂, e2, q2, q3, q4, q5, q6⟩ := id hfe
    have e3 : s₂ = ({ (U.calling g mk a).setFrames s₂.frames with heap := s₂.heap, slotsUsed := s₂.slotsUsed } : State).setVm s₂.vm := by
      have : s₂ = ({ s₂ with vm := (U.calling g mk a).vm } : State).setVm s₂.vm := rfl
      rw [e2] at this
      exact this
    obtain ⟨c₂, i₂, len₂, hc₂, hd₂, hf₂⟩ := hend
    have hW' : U.WarmedH s₂.vm := hW₂
    have hcc : c₂ = c := by
      have h1 : s₂.code? g.method = U.code? g.method := by
        rw [State.code?_eq, State.code?_eq, hW'.alike.method?]
      exact Option.some.inj (hc₂.symm.trans (h1.trans h.code))
    subst hcc
    have hlen : len₂ = len := by rw [hdg] at hd₂; cases hd₂; rfl
    subst hlen
    have hs₂ : s₂ = (({ U with heap := s₂.heap, slotsUsed := s₂.slotsUsed } : State).setVm s₂.vm).setTop { g with pc := g.pc + len₂, stack := v.toList ++ g.stack } := by
      refine e3.trans ?_
      rw [hf₂, State.calling_eq h.top, State.setFrames_setFrames, State.setTop_of_frames _ hr', hr]
      rfl
    have hsame : U.sameButNew ({ U with heap := s₂.heap, slotsUsed := s₂.slotsUsed } : State) L mc ms := by
      refine ⟨?_, q2, q3, q4, q5, q6⟩
      obtain ⟨t, ht, -⟩ := State.frames_cons hr
      show ({ U with heap := s₂.heap, slotsUsed := s₂.slotsUsed } : State) = { U.setFrames U.frames with heap := s₂.heap, slotsUsed := s₂.slotsUsed }
      rw [State.setFrames_self ht]
    subst hg
    refine Or.inl ⟨v, ⟨(({ U with heap := s₂.heap, slotsUsed := s₂.slotsUsed } : State).setVm s₂.vm), Ls ++ L, c0 + mc, s0 + ms⟩,
      ⟨X.admits, X.cas, X.clock, X.frames, X.room, X.hears, X.method, X.code, (X.here.setHeapUsed s₂.heap s₂.slotsUsed).setVm hW'.alike, X.tail, State.WarmedH.trans X.warmed hW', X.limits, X.bytes, X.same.trans (hsame.setVm s.vm)⟩,
      ⟨g, mk, s₂, L, rfl, rfl, hqc, rfl, hL, rfl, rfl⟩, ?_⟩
    show Steps p.tables e below _ ((({ U with heap := s₂.heap, slotsUsed := s₂.slotsUsed } : State).setVm s₂.vm).setTop { g with pc := g.pc + len₂, stack := v.toList ++ g.stack })
    rw [← hs₂]
    exact hsteps
  · obtain ⟨e2, q2, q3, q4, q5, q6⟩ := id hsm
    have e3 : s₂ = ({ (U.calling g mk a).setFrames s₂.frames with heap := s₂.heap, slotsUsed := s₂.slotsUsed } : State).setVm s₂.vm := by
      have : s₂ = ({ s₂ with vm := (U.calling g mk a).vm } : State).setVm s₂.vm := rfl
      rw [e2] at this
      exact this
    have hf₂ : s₂.frames = .throwing q :: .java g :: U.frames.tail := hend
    have hW' : U.WarmedH s₂.vm := hW₂
    have hs₂ : s₂ = ((({ U with heap := s₂.heap, slotsUsed := s₂.slotsUsed } : State).setVm s₂.vm).setTop g).pushFrame (.throwing q) := by
      refine e3.trans ?_
      rw [hf₂, State.calling_eq h.top, State.setFrames_setFrames, State.pushFrame, State.frames_setTop _ hr', State.setTop_of_frames _ hr', State.setFrames_setFrames, hr]
      rfl
    have hsame : U.sameButNew ({ U with heap := s₂.heap, slotsUsed := s₂.slotsUsed } : State) L mc ms := by
      refine ⟨?_, q2, q3, q4, q5, q6⟩
      obtain ⟨t, ht, -⟩ := State.frames_cons hr
      show ({ U with heap := s₂.heap, slotsUsed := s₂.slotsUsed } : State) = { U.setFrames U.frames with heap := s₂.heap, slotsUsed := s₂.slotsUsed }
      rw [State.setFrames_self ht]
    subst hg
    refine Or.inr ⟨q, ⟨(({ U with heap := s₂.heap, slotsUsed := s₂.slotsUsed } : State).setVm s₂.vm), Ls ++ L, c0 + mc, s0 + ms⟩,
      ⟨X.admits, X.cas, X.clock, X.frames, X.room, X.hears, X.method, X.code, (X.here.setHeapUsed s₂.heap s₂.slotsUsed).setVm hW'.alike, X.tail, State.WarmedH.trans X.warmed hW', X.limits, X.bytes, X.same.trans (hsame.setVm s.vm)⟩,
      ⟨g, mk, s₂, L, E, ce, rfl, rfl, hx, hce, hcv, hcl, rfl, hL, rfl, rfl⟩, ?_⟩
    show Steps p.tables e below _ (((({ U with heap := s₂.heap, slotsUsed := s₂.slotsUsed } : State).setVm s₂.vm).setTop g).pushFrame (.throwing q))
    rw [← hs₂]
    exact hsteps
end
variable {p : Program} {l : Launch} {e : Env} {R : Room} {s : State} {m : MethodId} {args : Array Value} {below : List Frame} {meth : Method} {c : Code} {T : State} {H : Heap} {locs : List Loc} {cells slots : Nat}
theorem vx_callVX (X : Stand p l e R s m args below meth c T locs cells slots) (hexec : p.tables.exec = Jvm.exec) {own C : String} {index : Nat} {y : MethodName} {bytes : ByteArray} {maxL : Nat} {ret : Option FieldType} {hh : List (Nat × Nat × Nat × Nat)}
    (hown : s.vm.findClass own = some m.cls) (hlink : (Cond.methodLink own index y).before args s = true) (hinst : (Cond.instanceMethod y).before args s = true) (hsel : (Cond.selects C y y).before args s = true)
    (hcode : (Cond.codeWith y bytes maxL ret hh).before args s = true) (hy : y.cls ≠ "java/lang/invoke/MethodHandle" ∧ y.cls ≠ "java/lang/invoke/VarHandle")
    {W9 : Nat} {Pre : Pt → Array Value → Prop} {Post : Pt → Array Value → Option Value → Pt → Prop} {PostX : Pt → Array Value → Addr → Pt → Prop} (hK : vx_Back l R p e below s args y 3 W9 Pre Post PostX)
    {b : Addr} {cellB : Cell} (hcell : T.heap[b]? = some cellB) (hobj : cellB.vm.isStatics = false) (hcls : s.vm.findClass C = some cellB.cls)
    {g : JFrame} (hg : g.method = m) (hsize : g.locals.size = c.maxLocals) {argsL rest : List Value} (hlen : ∀ sig, parseMethodDescriptor y.desc = some sig → argsL.length = sig.parameters.length)
    (hstack : g.stack = argsL.reverse ++ .ref b :: rest) (hW : 2 * g.monitorRoom + (rest.map fun v => v.category).sum ≤ W9) (hdg : decode c.code g.pc = .ok (.invokevirtual index, 3))
    (hpre : ∀ vm₁, s.WarmedH vm₁ → Pre ⟨T.setVm vm₁, locs, cells, slots⟩ (Value.ref b :: argsL).toArray) :
    (∃ (v : Option Value) (vm₁ : Vm) (B : Pt), s.WarmedH vm₁ ∧ Stand p l e R s m args below meth c B.U B.locs B.cells B.slots ∧ Post ⟨T.setVm vm₁, locs, cells, slots⟩ (Value.ref b :: argsL).toArray v B ∧
      ∀ target, Steps p.tables e below (B.U.setTop { g with pc := g.pc + 3, stack := v.toList ++ rest }) target → Steps p.tables e below (T.setTop g) target) ∨
    (∃ (q : Addr) (vm₁ : Vm) (B : Pt), s.WarmedH vm₁ ∧ Stand p l e R s m args below meth c B.U B.locs B.cells B.slots ∧ PostX ⟨T.setVm vm₁, locs, cells, slots⟩ (Value.ref b :: argsL).toArray q B ∧
      Steps p.tables e below (T.setTop g) ((B.U.setTop { g with stack := rest }).pushFrame (.throwing q))) := by
  obtain ⟨mk, methM, hnamed, hmethM, hstM, habM⟩ := Cond.instanceMethod_spec hinst
  obtain ⟨m8, methM', cM, hn8, hmethM', -, -, -, -, -, -, hsigM⟩ := Cond.codeWith_spec hcode
  cases Option.some.inj (hn8.symm.trans hnamed)
  cases hmethM.symm.trans hmethM'
  obtain ⟨c2, r2, m2, q1, q2, q3, q4, kP, hkP, hkPi⟩ := Cond.selects_spec hsel
  cases hcls.symm.trans q1
  cases (State.methodFound?_of_named hnamed hy).symm.trans q2
  cases hnamed.symm.trans q3
  have hselP : selectMethod e.platform s.vm cellB.cls mk = .method mk := by rw [Launch.admits_selectMethod X.admits]; exact q4
  obtain ⟨vm₁, X₁, hstep₁⟩ := X.invokevirtual hexec hown hlink hnamed hmethM hstM hkP hkPi hy (a := b) (cell := cellB) hcell
    (fun z h => by rw [h] at hobj; cases hobj) hselP hmethM habM hkP hkPi (g := g) hg (argsL := argsL) (rest := rest) (hlen _ hsigM) hstack hdg
  rcases hK m meth c ⟨T.setVm vm₁, locs, cells, slots⟩ { g with stack := rest } (.invokevirtual index) mk (Value.ref b :: argsL).toArray X₁ hg hsize hdg hW (X₁.named hnamed) (hpre vm₁ X₁.warmed) with ⟨v, B, X', hpost, hsteps⟩ | ⟨q, B, X', hpost, hsteps⟩
  · exact Or.inl ⟨v, vm₁, B, X₁.warmed, X', hpost, fun target h => hstep₁ _ fun acts => by rw [doInvoke_state]; exact hsteps.trans h⟩
  · exact Or.inr ⟨q, vm₁, B, X₁.warmed, X', hpost, hstep₁ _ fun acts => by rw [doInvoke_state]; exact hsteps⟩
theorem vx_callSX (X : Stand p l e R s m args below meth c T locs cells slots) (hexec : p.tables.exec = Jvm.exec) {own : String} {index : Nat} {y : MethodName} {bytes : ByteArray} {maxL : Nat} {ret : Option FieldType} {hh : List (Nat × Nat × Nat × Nat)}
    (hown : s.vm.findClass own = some m.cls) (hlink : (Cond.methodLink own index y).before args s = true) (hstat : (Cond.static y).before args s = true) (hinit : (Cond.initialized y.cls).before args s = true)
    (hcode : (Cond.codeWith y bytes maxL ret hh).before args s = true) (hy : y.cls ≠ "java/lang/invoke/MethodHandle" ∧ y.cls ≠ "java/lang/invoke/VarHandle")
    {W9 : Nat} {Pre : Pt → Array Value → Prop} {Post : Pt → Array Value → Option Value → Pt → Prop} {PostX : Pt → Array Value → Addr → Pt → Prop} (hK : vx_Back l R p e below s args y 3 W9 Pre Post PostX)
    {g : JFrame} (hg : g.method = m) (hsize : g.locals.size = c.maxLocals) {argsL rest : List Value} (hlen : ∀ sig, parseMethodDescriptor y.desc = some sig → argsL.length = sig.parameters.length)
    (hstack : g.stack = argsL.reverse ++ rest) (hW : 2 * g.monitorRoom + (rest.map fun v => v.category).sum ≤ W9) (hdg : decode c.code g.pc = .ok (.invokestatic index, 3))
    (hpre : ∀ vm₁, s.WarmedH vm₁ → Pre ⟨T.setVm vm₁, locs, cells, slots⟩ argsL.toArray) :
    (∃ (v : Option Value) (vm₁ : Vm) (B : Pt), s.WarmedH vm₁ ∧ Stand p l e R s m args below meth c B.U B.locs B.cells B.slots ∧ Post ⟨T.setVm vm₁, locs, cells, slots⟩ argsL.toArray v B ∧
      ∀ target, Steps p.tables e below (B.U.setTop { g with pc := g.pc + 3, stack := v.toList ++ rest }) target → Steps p.tables e below (T.setTop g) target) ∨
    (∃ (q : Addr) (vm₁ : Vm) (B : Pt), s.WarmedH vm₁ ∧ Stand p l e R s m args below meth c B.U B.locs B.cells B.slots ∧ PostX ⟨T.setVm vm₁, locs, cells, slots⟩ argsL.toArray q B ∧
      Steps p.tables e below (T.setTop g) ((B.U.setTop { g with stack := rest }).pushFrame (.throwing q))) := by
  obtain ⟨mk, methM, cM, hnamed, hmethM, -, -, -, -, -, -, hsigM⟩ := Cond.codeWith_spec hcode
  have hstatic : methM.isStatic = true := Cond.static_spec hnamed hmethM hstat
  obtain ⟨kP, hkP, -⟩ := className_of_methodNamed hnamed
  have hinitP : kP.init = .initialized := Cond.initialized_spec (findClass_of_methodNamed hnamed) hkP hinit
  obtain ⟨vm₁, X₁, hstep₁⟩ := X.invokestatic hexec hown hlink hnamed hmethM hstatic hkP hinitP hy (g := g) hg (argsL := argsL) (rest := rest) (hlen _ hsigM) hstack hdg
  rcases hK m meth c ⟨T.setVm vm₁, locs, cells, slots⟩ { g with stack := rest } (.invokestatic index) mk argsL.toArray X₁ hg hsize hdg hW (X₁.named hnamed) (hpre vm₁ X₁.warmed) with ⟨v, B, X', hpost, hsteps⟩ | ⟨q, B, X', hpost, hsteps⟩
  · exact Or.inl ⟨v, vm₁, B, X₁.warmed, X', hpost, fun target h => hstep₁ _ fun acts => by rw [doInvoke_state]; exact hsteps.trans h⟩
  · exact Or.inr ⟨q, vm₁, B, X₁.warmed, X', hpost, hstep₁ _ fun acts => by rw [doInvoke_state]; exact hsteps⟩
theorem vx_callVW (X : Stand p l e R s m args below meth c T locs cells slots) (hexec : p.tables.exec = Jvm.exec) {own C : String} {index : Nat} {y : MethodName} {bytes : ByteArray} {maxL : Nat} {ret : Option FieldType} {hh : List (Nat × Nat × Nat × Nat)}
    (hown : s.vm.findClass own = some m.cls) (hlink : (Cond.methodLink own index y).before args s = true) (hinst : (Cond.instanceMethod y).before args s = true) (hsel : (Cond.selects C y y).before args s = true)
    (hcode : (Cond.codeWith y bytes maxL ret hh).before args s = true) (hy : y.cls ≠ "java/lang/invoke/MethodHandle" ∧ y.cls ≠ "java/lang/invoke/VarHandle")
    {W9 : Nat} {Pre : Pt → Array Value → Prop} {Post : Pt → Array Value → Option Value → Pt → Prop} (hK : Back l R p e below s args y 3 W9 Pre Post)
    {b : Addr} {cellB : Cell} (hcell : T.heap[b]? = some cellB) (hobj : cellB.vm.isStatics = false) (hcls : s.vm.findClass C = some cellB.cls)
    {g : JFrame} (hg : g.method = m) (hsize : g.locals.size = c.maxLocals) {argsL rest : List Value} (hlen : ∀ sig, parseMethodDescriptor y.desc = some sig → argsL.length = sig.parameters.length)
    (hstack : g.stack = argsL.reverse ++ .ref b :: rest) (hW : 2 * g.monitorRoom + (rest.map fun v => v.category).sum ≤ W9) (hdg : decode c.code g.pc = .ok (.invokevirtual index, 3))
    (hpre : ∀ vm₁, s.WarmedH vm₁ → Pre ⟨T.setVm vm₁, locs, cells, slots⟩ (Value.ref b :: argsL).toArray) :
    ∃ (v : Option Value) (vm₁ : Vm) (B : Pt), s.WarmedH vm₁ ∧ Stand p l e R s m args below meth c B.U B.locs B.cells B.slots ∧ Post ⟨T.setVm vm₁, locs, cells, slots⟩ (Value.ref b :: argsL).toArray v B ∧
      ∀ target, Steps p.tables e below (B.U.setTop { g with pc := g.pc + 3, stack := v.toList ++ rest }) target → Steps p.tables e below (T.setTop g) target := by
  obtain ⟨mk, methM, hnamed, hmethM, hstM, habM⟩ := Cond.instanceMethod_spec hinst
  obtain ⟨m8, methM', cM, hn8, hmethM', -, -, -, -, -, -, hsigM⟩ := Cond.codeWith_spec hcode
  cases Option.some.inj (hn8.symm.trans hnamed)
  cases hmethM.symm.trans hmethM'
  obtain ⟨c2, r2, m2, q1, q2, q3, q4, kP, hkP, hkPi⟩ := Cond.selects_spec hsel
  cases hcls.symm.trans q1
  cases (State.methodFound?_of_named hnamed hy).symm.trans q2
  cases hnamed.symm.trans q3
  have hselP : selectMethod e.platform s.vm cellB.cls mk = .method mk := by rw [Launch.admits_selectMethod X.admits]; exact q4
  obtain ⟨vm₁, X₁, hstep₁⟩ := X.invokevirtual hexec hown hlink hnamed hmethM hstM hkP hkPi hy (a := b) (cell := cellB) hcell
    (fun z h => by rw [h] at hobj; cases hobj) hselP hmethM habM hkP hkPi (g := g) hg (argsL := argsL) (rest := rest) (hlen _ hsigM) hstack hdg
  obtain ⟨v, B, X', hpost, hsteps⟩ := hK m meth c ⟨T.setVm vm₁, locs, cells, slots⟩ { g with stack := rest } (.invokevirtual index) mk (Value.ref b :: argsL).toArray X₁ hg hsize hdg hW (X₁.named hnamed) (hpre vm₁ X₁.warmed)
  exact ⟨v, vm₁, B, X₁.warmed, X', hpost, fun target h => hstep₁ _ fun acts => by rw [doInvoke_state]; exact hsteps.trans h⟩
abbrev vx_CVW (R : Room) (s : State) (args : Array Value) (own C : String) (index : Nat) (y : MethodName) (bytes : ByteArray) (maxL : Nat) (ret : Option FieldType) (hh : List (Nat × Nat × Nat × Nat)) (ws : List Cond) (rm : Room) (mc ms n : Nat) : Prop :=
  (rm.cells = mc ∧ rm.slots = ms ∧ rm.frames + 1 ≤ R.frames ∧ 8 + (maxL + 11) + rm.locals ≤ R.locals ∧ (∀ w ∈ ws, ∀ (a' : Array Value) (U : State), s.WarmedH U.vm → w.before a' U = true) ∧ Cond.codeWith y bytes maxL ret hh ∈ ws) ∧
  (Cond.codeWith y bytes maxL ret hh).before args s = true ∧ (Cond.initialized y.cls).before args s = true ∧ (y.cls ≠ "java/lang/invoke/MethodHandle" ∧ y.cls ≠ "java/lang/invoke/VarHandle") ∧
  (∀ sig, parseMethodDescriptor y.desc = some sig → n = sig.parameters.length) ∧ (Cond.methodLink own index y).before args s = true ∧ (Cond.instanceMethod y).before args s = true ∧ (Cond.selects C y y).before args s = true
theorem vx_cwVW {own C : String} {index maxL mc ms : Nat} {y : MethodName} {bytes : ByteArray} {ret : Option FieldType} {hh : List (Nat × Nat × Nat × Nat)} {Ts ws ws' : List Cond} {rm : Room} (n : Nat) (ht : ∀ w ∈ Ts, w.before args s = true) (hT : GoodIn Ts (wsV own index C y ws)) (hw : ws = Cond.codeWith y bytes maxL ret hh :: ws') (hrc : rm.cells = mc) (hrs : rm.slots = ms)
    (hd : y.cls = C ∧ y.cls ≠ "java/lang/invoke/MethodHandle" ∧ y.cls ≠ "java/lang/invoke/VarHandle" ∧ (parseMethodDescriptor y.desc).map (fun d => d.parameters.length) = some n) (hR : rm.frames + 1 ≤ R.frames ∧ 8 + (maxL + 11) + rm.locals ≤ R.locals) :
    vx_CVW R s args own C index y bytes maxL ret hh ws rm mc ms n := by
  obtain ⟨hC, hd⟩ := hd
  subst hC
  have ok : ∀ w ∈ wsV own index y.cls y ws, w.before args s = true := fun w h => ht w (hT w h).1
  have hG : GoodIn Ts ws := fun w h => hT w (by unfold wsV; exact List.mem_append_right _ h)
  have hc : Cond.codeWith y bytes maxL ret hh ∈ ws := by rw [hw]; exact List.mem_cons_self
  refine ⟨⟨hrc, hrs, hR.1, hR.2, pay_in ht hG, hc⟩, ht _ (hG _ hc).1, ok _ (by simp [wsV]), ⟨hd.1, hd.2.1⟩, fun sig h => ?_, ok _ (by simp [wsV]), ok _ (by simp [wsV]), ok _ (by simp [wsV])⟩
  have h2 := hd.2.2
  rw [h] at h2
  exact (Option.some.inj h2).symm
theorem vx_runVW {y : MethodName} {bytes cc : ByteArray} {maxL nL mc ms n index : Nat} {ret : Option FieldType} {hh : List (Nat × Nat × Nat × Nat)} {ws : List Cond} {rm : Room} {Pc : Array Value → State → Prop} {Qc : Array Value → State → Outcome → State → Prop} {free : Addr → Prop} {Ts : List Cond} {own C : String} {b : Addr} {As rest : List Value} {g : JFrame}
    (S : CallFix p m c cc nL s args Ts own) (hM : Met l y ws rm Pc Qc mc ms free) (cw : vx_CVW R s args own C index y bytes maxL ret hh ws rm mc ms n) (hp : PreV s H C b Pc As)
    (hg : g.method = m) (hn : As.length = n) (hsize : g.locals.size = nL) (hstack : g.stack = As.reverse ++ .ref b :: rest) (hW : 2 * g.monitorRoom + (rest.map fun v => v.category).sum ≤ 8) (hdg : decode cc g.pc = .ok (.invokevirtual index, 3)) (hf : cells + mc ≤ R.cells ∧ slots + ms ≤ R.slots) :
    va_Run p l e R s m args below meth c H locs cells slots mc ms g rest (Qc (Value.ref b :: As).toArray) free := by
  obtain ⟨⟨hrc, hrs, hfr, hlo, hws, hcw⟩, hcode, hini, hy, hlen, hl, hin, hse⟩ := cw
  have hK : Back l R p e below s args y 3 8 (PreOf R mc ms Pc) (PostOf Qc mc ms free) := va_backW (hh := hh) (bytes := bytes) (maxL := maxL) (ret := ret) hM hp.1 hrc hrs hfr hlo hws hcw (fun a' U hW => word_at hW (Or.inl (by first | rfl | simp [Cond.onTables, Cond.keeps, Cond.steady])) hini)
  obtain ⟨hx, hb, hml, ho, -⟩ := S
  obtain ⟨-, ⟨cellB, hcB, hoB, hclB⟩, hPc⟩ := hp
  intro T hT X
  obtain ⟨v, vm₁, ⟨U', l2, c2, s2⟩, hW₁, X', ⟨g', mk, t, L, e1, e2, hq, h1, hL, h2, h3⟩, st⟩ := vx_callVW X hx (C := C) (hh := hh) (bytes := bytes) (maxL := maxL) (ret := ret) ho hl hin hse hcode hy hK (by rw [hT]; exact hcB) hoB hclB hg (hsize.trans hml.symm) (argsL := As) (rest := rest) (fun sig h => hn.trans (hlen sig h)) hstack hW (by rw [hb]; exact hdg)
    (fun vm₁ hW₁ => ⟨hf.1, hf.2, hPc (T.setVm vm₁) hT hW₁⟩)
  dsimp only [Pt.U, Pt.locs, Pt.cells, Pt.slots] at X' e1 e2 h1 h2 h3 st
  subst h1; subst h2; subst h3
  exact ⟨v, (T.setVm vm₁).calling g' mk (Value.ref b :: As).toArray, t, U', L, hT, X', hL, e1, e2, hq, st⟩
section
variable {y : MethodName} {bytes cc : ByteArray} {maxL nL mc ms n index : Nat} {ret : Option FieldType} {ws : List Cond} {rm : Room} {Pc : Array Value → State → Prop} {Qc : Array Value → State → Outcome → State → Prop} {XC : String → State → State → Prop} {free : Addr → Prop} {Ts : List Cond} {own C : String} {b : Addr} {As rest : List Value} {g : JFrame}
theorem vx_runVX {hh : List (Nat × Nat × Nat × Nat)} (S : CallFix p m c cc nL s args Ts own) (hM : vx_Met l y ws rm Pc Qc XC mc ms free) (cw : vx_CVW R s args own C index y bytes maxL ret hh ws rm mc ms n) (hp : PreV s H C b Pc As)
    (hg : g.method = m) (hn : As.length = n) (hsize : g.locals.size = nL) (hstack : g.stack = As.reverse ++ .ref b :: rest) (hW : 2 * g.monitorRoom + (rest.map fun v => v.category).sum ≤ 8) (hdg : decode cc g.pc = .ok (.invokevirtual index, 3)) (hf : cells + mc ≤ R.cells ∧ slots + ms ≤ R.slots) :
    vx_Run p l e R s m args below meth c H locs cells slots mc ms g rest (Qc (Value.ref b :: As).toArray) XC free := by
  obtain ⟨⟨hrc, hrs, hfr, hlo, hws, hcw⟩, hcode, hini, hy, hlen, hl, hin, hse⟩ := cw
  have hK : vx_Back l R p e below s args y 3 8 (PreOf R mc ms Pc) (PostOf Qc mc ms free) (vx_Post XC mc ms free) := vx_backW (hh := hh) (bytes := bytes) (maxL := maxL) (ret := ret) hM hp.1 hrc hrs hfr hlo hws hcw (fun a' U hW => word_at hW (Or.inl (by first | rfl | simp [Cond.onTables, Cond.keeps, Cond.steady])) hini)
  obtain ⟨hx, hb, hml, ho, -⟩ := S
  obtain ⟨-, ⟨cellB, hcB, hoB, hclB⟩, hPc⟩ := hp
  intro T hT X
  rcases vx_callVX X hx (C := C) (hh := hh) (bytes := bytes) (maxL := maxL) (ret := ret) ho hl hin hse hcode hy hK (by rw [hT]; exact hcB) hoB hclB hg (hsize.trans hml.symm) (argsL := As) (rest := rest) (fun sig h => hn.trans (hlen sig h)) hstack hW (by rw [hb]; exact hdg)
    (fun vm₁ hW₁ => ⟨hf.1, hf.2, hPc (T.setVm vm₁) hT hW₁⟩) with ⟨v, vm₁, ⟨U', l2, c2, s2⟩, hW₁, X', ⟨g', mk, t, L, e1, e2, hq, h1, hL, h2, h3⟩, st⟩ | ⟨q, vm₁, ⟨U', l2, c2, s2⟩, hW₁, X', ⟨g', mk, t, L, E, ce, e1, e2, hq, hce, hcv, hcl, h1, hL, h2, h3⟩, st⟩
  · dsimp only [Pt.U, Pt.locs, Pt.cells, Pt.slots] at X' e1 e2 h1 h2 h3 st
    subst h1; subst h2; subst h3
    exact Or.inl ⟨v, (T.setVm vm₁).calling g' mk (Value.ref b :: As).toArray, t, U', L, hT, X', hL, e1, e2, hq, st⟩
  · dsimp only [Pt.U, Pt.locs, Pt.cells, Pt.slots] at X' e1 e2 h1 h2 h3 st hcl
    subst h1; subst h2; subst h3
    exact Or.inr ⟨q, (T.setVm vm₁).calling g' mk (Value.ref b :: As).toArray, t, U', L, E, ce, hT, X', hL, e1, e2, hq, hce, hcv, vx_cls hW₁ hcl, st⟩
theorem vx_runSX {hh : List (Nat × Nat × Nat × Nat)} (S : CallFix p m c cc nL s args Ts own) (hM : vx_Met l y ws rm Pc Qc XC mc ms free) (cw : vx_CSW R s args own index y bytes maxL ret hh ws rm mc ms n) (hp : PreS s H Pc As)
    (hg : g.method = m) (hn : As.length = n) (hsize : g.locals.size = nL) (hstack : g.stack = As.reverse ++ rest) (hW : 2 * g.monitorRoom + (rest.map fun v => v.category).sum ≤ 8) (hdg : decode cc g.pc = .ok (.invokestatic index, 3)) (hf : cells + mc ≤ R.cells ∧ slots + ms ≤ R.slots) :
    vx_Run p l e R s m args below meth c H locs cells slots mc ms g rest (Qc As.toArray) XC free := by
  obtain ⟨⟨hrc, hrs, hfr, hlo, hws, hcw⟩, hcode, hini, hy, hlen, hl, hstt⟩ := cw
  have hK : vx_Back l R p e below s args y 3 8 (PreOf R mc ms Pc) (PostOf Qc mc ms free) (vx_Post XC mc ms free) := vx_backW (hh := hh) (bytes := bytes) (maxL := maxL) (ret := ret) hM hp.1 hrc hrs hfr hlo hws hcw (fun a' U hW => word_at hW (Or.inl (by first | rfl | simp [Cond.onTables, Cond.keeps, Cond.steady])) hini)
  obtain ⟨hx, hb, hml, ho, -⟩ := S
  intro T hT X
  rcases vx_callSX X hx (hh := hh) (bytes := bytes) (maxL := maxL) (ret := ret) ho hl hstt hini hcode hy hK hg (hsize.trans hml.symm) (argsL := As) (rest := rest) (fun sig h => hn.trans (hlen sig h)) hstack hW (by rw [hb]; exact hdg)
    (fun vm₁ hW₁ => ⟨hf.1, hf.2, hp.2 (T.setVm vm₁) hT hW₁⟩) with ⟨v, vm₁, ⟨U', l2, c2, s2⟩, hW₁, X', ⟨g', mk, t, L, e1, e2, hq, h1, hL, h2, h3⟩, st⟩ | ⟨q, vm₁, ⟨U', l2, c2, s2⟩, hW₁, X', ⟨g', mk, t, L, E, ce, e1, e2, hq, hce, hcv, hcl, h1, hL, h2, h3⟩, st⟩
  · dsimp only [Pt.U, Pt.locs, Pt.cells, Pt.slots] at X' e1 e2 h1 h2 h3 st
    subst h1; subst h2; subst h3
    exact Or.inl ⟨v, (T.setVm vm₁).calling g' mk As.toArray, t, U', L, hT, X', hL, e1, e2, hq, st⟩
  · dsimp only [Pt.U, Pt.locs, Pt.cells, Pt.slots] at X' e1 e2 h1 h2 h3 st hcl
    subst h1; subst h2; subst h3
    exact Or.inr ⟨q, (T.setVm vm₁).calling g' mk As.toArray, t, U', L, E, ce, hT, X', hL, e1, e2, hq, hce, hcv, vx_cls hW₁ hcl, st⟩
end
end VXH
theorem vx_ofWH {l : Launch} {y : MethodName} {ws ws' : List Cond} {rm : Room} {Pc : Array Value → State → Prop} {Qc : Array Value → State → Outcome → State → Prop} {XC : String → State → State → Prop} {mc ms : Nat} {free : Addr → Prop} {cc : ByteArray} {maxL : Nat} {ret : Option FieldType} {hh : List (Nat × Nat × Nat × Nat)}
    (hy : plainName y.cls = true) (hw : ws = Cond.codeWith y cc maxL ret hh :: ws')
    (body : ∀ p e s m args below meth c s₁, BodyLoose p l y (headSpec ws rm) cc maxL ret e s m args below meth c s₁ → c.maxLocals = maxL → Pc args s →
      W p l e (headSpec ws rm).room s m args below meth c s.heap [] 0 0 (vx_MQ below Qc XC args s mc ms free) (entryFrame m args maxL)) : vx_Met l y ws rm Pc Qc XC mc ms free := by
  refine MetFree.of_bodyS (code := cc) (maxLocals := maxL) (ret := ret) hy ?_ ?_
  · intro args s m h hn
    obtain ⟨m9, meth, c, hn9, h1, h2, h3, h4, -, h5, h6, -⟩ := Cond.codeWith_spec (atoms_spec (ws := ws) h _ (by rw [hw]; exact List.mem_cons_self))
    cases hn.symm.trans hn9
    exact ⟨meth, c, h1, h2, h3, h4, h5, h6⟩
  · intro p e s m args below meth c s₁ B hml hP _
    have hh0 : s₁.heap = s.heap := by rw [B.state]; rfl
    obtain ⟨t, a1, o, b1, b2, b3⟩ := body p e s m args below meth c s₁ B hml hP s₁ hh0 (Stand.of_body B)
    exact ⟨t, o, a1, b1, b2, b3⟩
/-! ===== END ===== -/

/-! ===== BEGIN what the machine throws by itself, no traces kept ===== -/
section VXM
set_option maxHeartbeats 1000000 in
/-- the machine throws cls with the message text, no traces kept: from its note over the frame g to 'throwing' over the same frame (follows the proofs of Stand.vmThrowsMessage, Shelf/KitTracedVmS.lean, and Stand.throwsMessageColdBareV, StandMessageColdV.lean, without the step out of the frame) -/
theorem vx_vmAt {p : Program} {l : Launch} {e : Env} {R : Room} {s : State} {m₀ : MethodId} {args : Array Value} {below : List Frame} {meth : Method} {c : Code} {W : State} {locs : List Loc} {cells slots : Nat}
    (X : Stand p l e R s m₀ args below meth c W locs cells slots) (hexec : p.tables.exec = Jvm.exec) (htr : e.platform.stackTraces = false) {cls : String} {names : List String} {text : String}
    (hcls : Bundle.fit cls = true) (hnames : ∀ n ∈ names, Bundle.fit n = true) (hsoe : (cls == "java/lang/StackOverflowError") = false) (hoom : (cls == "java/lang/OutOfMemoryError") = false)
    (h : ∀ a ∈ Bundle.messageArmAtoms cls names, a.before args s = true)
    (hlocs : ∀ x ∈ locs, ∀ cell, s.heap[x.base]? = some cell → cell.vm.isStatics = false)
    (htext : (text == notModelled) = false) (hlimit : ¬ (stringBytes (stringToUtf16 text)).size > e.platform.arrayLengthLimit) (hheap : ¬ (stringBytes (stringToUtf16 text)).size * componentBytes .byte > e.platform.maxHeapBytes)
    {g : JFrame} (hg : g.method = m₀) (hsize : g.locals.size = c.maxLocals)
    (hRframes : names.length + 4 < R.frames) (hRlocals : 2 * g.monitorRoom + (g.stack.map fun v => v.category).sum + 10240 ≤ R.locals) (hshort : 13 * names.length + 55 ≤ 10240)
    (hRcells : cells + 3 ≤ R.cells) (hRslots : slots + ((stringBytes (stringToUtf16 text)).size + 4 + 6) ≤ R.slots) (hlocks : meth.locks = false) :
    ∃ (S : State) (q : Addr) (ce : Cell), (∀ target, Steps p.tables e below ((S.setTop g).pushFrame (.throwing q)) target → Steps p.tables e below ((W.setTop g).pushFrame (.throwNew cls (some text) none)) target) ∧
      Stand p l e R s m₀ args below meth c S locs (cells + 3) (slots + ((stringBytes (stringToUtf16 text)).size + 4 + 6)) ∧ S.heap[q]? = some ce ∧ s.vm.findClass cls = some ce.cls ∧ ce.vm = .none := by
  have howns : e.platform.frameOwnsMonitors = true := by rw [X.admits.platform]
  have hfin : e.platform.finalization = false := by rw [X.admits.platform]
  have hpl : e.platform.magicAccessors = ({} : Platform).magicAccessors := by rw [X.admits.platform]
  have a : ∀ x, x ∈ Bundle.messageArmAtoms cls names → x.holds args s none s [] = true := fun x hx => h x hx
  obtain ⟨T, Z0, L, -, Y⟩ := ThrowableC.of_atoms (args := args) howns hfin hpl (fun x hx => h x (by simp [Bundle.messageArmAtoms, hx]))
  obtain ⟨Z, M, LZ, LM, hnZ⟩ := Init0T.ofS_atoms (args := args) hpl L Y (fun x hx => h x (by simp [Bundle.messageArmAtoms, hx]))
  obtain ⟨P1, Ps, hlen, L1, hL, hP1m, hlink1, hlink⟩ := Bundle.chainS (args := args) hpl hnZ names cls hcls hnames (fun x hx => h x (by simp [Bundle.messageArmAtoms, hx]))
  obtain ⟨Zs, LZs, hn4, hfitv, hfitc⟩ := StringT.of_atoms (args := args) (fun x hx => h x (by simp [Bundle.messageArmAtoms, hx]))
  have hfound : s.vm.findClass cls = some P1.m.cls := findClass_of_methodNamed hP1m
  obtain ⟨c1, kX, hc1, hk, hord, -, -, hn6⟩ := Cond.instantiable_spec (a (.instantiable cls 6) (by simp [Bundle.messageArmAtoms]))
  cases Option.some.inj (hc1.symm.trans hfound)
  have hinit := Cond.initialized_spec hfound hk (a (.initialized cls) (by simp [Bundle.messageArmAtoms]))
  have hctor : kX.findMethod "<init>" "(Ljava/lang/String;)V" = some P1.m.idx := findMethod_of_methodNamed hP1m hk
  have hsel0 : selectMethod e.platform s.vm P1.m.cls T.fill0 = .method T.fill0 := by
    obtain ⟨c2, r2, m2, q1, q2, q3, q4, -⟩ := Cond.selects_spec (a (.selects cls Bundle.tFill0 Bundle.tFill0) (by simp [Bundle.messageArmAtoms]))
    cases Option.some.inj (q1.symm.trans hfound)
    cases Option.some.inj (q2.symm.trans (State.methodFound?_of_named Y.fill0 (by decide)))
    cases Option.some.inj (q3.symm.trans Y.fill0)
    rw [Launch.admits_selectMethod X.admits]; exact q4
  have hselF : selectMethod e.platform s.vm P1.m.cls T.fill = .method T.fill := by
    obtain ⟨c2, r2, m2, q1, q2, q3, q4, -⟩ := Cond.selects_spec (a (.selects cls Bundle.tFill Bundle.tFill) (by simp [Bundle.messageArmAtoms]))
    cases Option.some.inj (q1.symm.trans hfound)
    cases Option.some.inj (q2.symm.trans (State.methodFound?_of_named Y.fill (by decide)))
    cases Option.some.inj (q3.symm.trans Y.fill)
    rw [Launch.admits_selectMethod X.admits]; exact q4
  obtain ⟨cellS0, hcS0, hiss⟩ := Y.statics
  obtain ⟨u0, hu0⟩ := Cond.staticRefV Y.unassigned L.unassignedStatic L.statics hcS0 hiss (a (.isRef (.static Bundle.tN "UNASSIGNED_STACK" Bundle.steD)) (by simp [Bundle.messageArmAtoms]))
  obtain ⟨sen, hsen⟩ := Cond.staticRefV Y.sentinel L.sentinelStatic L.statics hcS0 hiss (a (.isRef (.static Bundle.tN "SUPPRESSED_SENTINEL" Bundle.listD)) (by simp [Bundle.messageArmAtoms]))
  obtain ⟨ci198, i198, fB, hk198, hg198, ha198, hsB, -, hnB, htB, hffB⟩ := Cond.ownField (t := .object "java/lang/Object") Y.found L.cls (by decide +kernel) (a (.fieldLink Bundle.tN 198 Bundle.tN "backtrace" "Ljava/lang/Object;") (by simp [Bundle.messageArmAtoms])) (a (.lays Bundle.tN Bundle.tN "backtrace" "Ljava/lang/Object;") (by simp [Bundle.messageArmAtoms])) e.platform hpl
  obtain ⟨cellS, hcS', heS, -, hkeep⟩ := X.same.2.2.2.2.2 T.aS cellS0 hcS0
  have hcellS : W.heap[T.aS]? = some cellS := hcS'
  have hout' : ∀ i, (⟨T.aS, i⟩ : Loc) ∉ locs := fun i hmem => by
    have := hlocs _ hmem cellS0 hcS0
    rw [hiss] at this; cases this
  have hknownS : cellS.vm ≠ .unknown := by
    rw [heS]; intro hu
    rw [show cellS0.vm = .unknown from hu] at hiss
    cases hiss
  have hvU : cellS.slots[T.fUnassigned.slot]? = some u0.v := by rw [hkeep _ (hout' _)]; exact hu0
  have hvSen : cellS.slots[T.fSentinel.slot]? = some sen.v := by rw [hkeep _ (hout' _)]; exact hsen
  obtain ⟨iM, hffM⟩ := Y.msg
  obtain ⟨tyC, dC, hdC, hdnC⟩ := Cond.laysAt hfound hk Y.cause (a (.lays cls Bundle.tN "cause" "Ljava/lang/Throwable;") (by simp [Bundle.messageArmAtoms]))
  obtain ⟨tyS, dS, hdS, hdnS⟩ := Cond.laysAt hfound hk Y.stack (a (.lays cls Bundle.tN "stackTrace" Bundle.steD) (by simp [Bundle.messageArmAtoms]))
  obtain ⟨tyP, dP, hdP, hdnP⟩ := Cond.laysAt hfound hk Y.supp (a (.lays cls Bundle.tN "suppressedExceptions" Bundle.listD) (by simp [Bundle.messageArmAtoms]))
  obtain ⟨tyM, dM, hdM, hdnM⟩ := Cond.laysAt hfound hk hffM (a (.lays cls Bundle.tN "detailMessage" "Ljava/lang/String;") (by simp [Bundle.messageArmAtoms]))
  obtain ⟨tyB, dB, hdB, hdnB⟩ := Cond.laysAt hfound hk hffB (a (.lays cls Bundle.tN "backtrace" "Ljava/lang/Object;") (by simp [Bundle.messageArmAtoms]))
  have bC := Cond.laysApart hdB hdC hdnB hdnC (by rw [hnB, Y.causeName]; decide)
  have bS := Cond.laysApart hdB hdS hdnB hdnS (by rw [hnB, Y.stackName]; decide)
  have bP := Cond.laysApart hdB hdP hdnB hdnP (by rw [hnB, Y.suppName]; decide)
  have hbk : ((preparedCellV T.toThrowableT (freshCell P1.m.cls kX) (W.heap.size + 2) u0 sen).withEntry W.cur).slots[fB.slot]? = some .null := by
    have := fresh_default (c := P1.m.cls) tyB
    rw [htB] at this
    simpa [preparedCellV, Cell.setSlot, Cell.withEntry, Array.getElem?_setIfInBounds, bC, bS, bP, bC.symm, bS.symm, bP.symm, defaultValue] using this
  have tkC := Takes.of_laid (v := .ref (W.heap.size + 2)) hk hord tyC (by rw [Y.causeType]; rfl)
  have tkS := Takes.of_laid (v := u0.v) hk hord tyS (by rw [Y.stackType]; exact fits_refV_array _ u0)
  have tkP := Takes.of_laid (v := sen.v) hk hord tyP (by rw [Y.suppType]; exact fits_refV_object _ sen)
  have tkM := Takes.of_laid (v := .ref (W.heap.size + 1)) hk hord tyM (by rw [Y.msgType]; rfl)
  have hskip : SkipFacts T e.platform s (fun u => u) u0 ((preparedCellV T.toThrowableT (freshCell P1.m.cls kX) (W.heap.size + 2) u0 sen).withEntry W.cur) := ⟨{ ci198 := ci198, i198 := i198, fBack := fB }, ⟨hk198, hg198, ha198, hsB⟩, hbk, fun _ _ => rfl⟩
  have h0 : At W g.method c below := by rw [hg]; exact X.here
  obtain ⟨hbeyond, hfreeW⟩ := X.vmMayThrow hsize (.throwNew cls (some text) none) (fun f hf => by cases hf) rfl hRlocals
  have hfr' : W.frames.length + Ps.length + 4 < (e.platform.stackLimits W.me).1 := by have := X.framesAbove hRframes; omega
  have hwd' : (stackUse (.java g :: W.frames.tail)).2 + 13 * Ps.length + 55 ≤ (e.platform.stackLimits W.me).2 := by have := X.stackAbove hsize (K := 13 * Ps.length + 55) (by omega); omega
  have hslots : W.slotsUsed + (stringBytes (stringToUtf16 text)).size + Zs.kS.instanceTypes.size + kX.instanceTypes.size ≤ e.platform.maxSlots := by
    have := X.slotsAbove hRslots
    rw [hn4, hn6]
    omega
  obtain ⟨vm', hW', st⟩ := Steps.vmThrowsMessageColdByV p (s₀ := s) (S := W) (g := g) h0 hexec T L Z LZ M LM X.warmed (t := W.cur) rfl Zs LZs P1 L1 Ps hL hlink1 hlink hsoe hoom hfound hk hinit hord hctor
    (Launch.admits_hotImplicitExceptions X.admits) hbeyond hfreeW htext hlimit hheap (X.cellsAbove hRcells) hslots (hfitv _) (hfitc _)
    (Nn := fun u => u) heapOnly_id (fun _ _ => rfl) (fun _ => rfl) (fun u x y => setCell_twice _ _ _ _) (fun _ => Nat.le_refl _) (cN := ((preparedCellV T.toThrowableT (freshCell P1.m.cls kX) (W.heap.size + 2) u0 sen).withEntry W.cur))
    hsel0 hcellS hknownS hvU tkS (fun _ hu => hu) (fun _ hu => hu) rfl rfl rfl (by simp [preparedCellV, Cell.setSlot, Cell.withEntry]) hskip (fun _ _ hA hW _ hroom _ hrest => L.nativeOff p htr hA hW hroom hrest) hselF hvSen tkC tkP tkM Y.objLocals rfl hfr' hwd'
  rw [plainBareV_eq T.toThrowableT (W.heap.size + 2) u0 sen (.ref (W.heap.size + 1)) W.cur rfl rfl] at st
  obtain ⟨-, -, w3, w4, -, -, -⟩ := withThrown_facts e.platform W Zs text P1.m.cls kX
  have X3 := ((X.pushed (bytesOf Zs.cB (stringToUtf16 text))).pushed (stringAt Zs.cS Zs.kS Zs.fv Zs.fc (stringToUtf16 text) W.heap.size)).pushed (freshCell P1.m.cls kX)
  rw [← withString_eq] at X3
  have X4 := X3.noted hW'
  have ha : (W.heap.size + 2) < ((withThrown W Zs text P1.m.cls kX).setVm vm').heap.size := by show _ < (withThrown W Zs text P1.m.cls kX).heap.size; rw [w3]; omega
  have hcell : ((withThrown W Zs text P1.m.cls kX).setVm vm').heap[(W.heap.size + 2)]? = some (freshCell P1.m.cls kX) := w4
  have X5 := ((((X4.stored hcell T.fCause.slot (.ref (W.heap.size + 2))).storedAgain ha T.fStack.slot u0.v).storedAgain ha T.fSupp.slot sen.v).storedAgain ha T.fStack.slot u0.v).storedAgain ha T.fMsg.slot (.ref (W.heap.size + 1))
  obtain ⟨g₁, hfrM⟩ := X5.frames_eq
  have hU : ((((withThrown W Zs text P1.m.cls kX).setVm vm').setCell (W.heap.size + 2) (plainBareV T.toThrowableT (freshCell P1.m.cls kX) (W.heap.size + 2) u0 sen (.ref (W.heap.size + 1)))).setTop g).pushFrame (.throwing (W.heap.size + 2)) = (((withThrown W Zs text P1.m.cls kX).setVm vm').setCell (W.heap.size + 2) (plainBareV T.toThrowableT (freshCell P1.m.cls kX) (W.heap.size + 2) u0 sen (.ref (W.heap.size + 1)))).setFrames (.throwing (W.heap.size + 2) :: .java g :: below) := by
    rw [State.pushFrame, State.frames_setTop _ hfrM, State.setTop_of_frames _ hfrM, State.setFrames_setFrames]
  have b1 : (bytesOf Zs.cB (stringToUtf16 text)).slots.size = (stringBytes (stringToUtf16 text)).size := by
    rw [(Cell.writeAll_facts _ _).2.2]; simp [bytes0]
  have b2 : (stringAt Zs.cS Zs.kS Zs.fv Zs.fc (stringToUtf16 text) W.heap.size).slots.size = 4 := by simp [string0, Cell.setSlot, hn4]
  have b3 : (freshCell P1.m.cls kX).slots.size = 6 := by simp [hn6]
  rw [b1, b2, b3] at X5
  have e9 : slots + (stringBytes (stringToUtf16 text)).size + 4 + 6 = slots + ((stringBytes (stringToUtf16 text)).size + 4 + 6) := by omega
  rw [e9] at X5
  simp only [List.append_assoc, List.cons_append, List.nil_append] at X5
  refine ⟨((withThrown W Zs text P1.m.cls kX).setVm vm').setCell (W.heap.size + 2) (plainBareV T.toThrowableT (freshCell P1.m.cls kX) (W.heap.size + 2) u0 sen (.ref (W.heap.size + 1))), W.heap.size + 2, _, fun target ht => st _ (by rw [X.tail, ← hU]; exact ht),
    X5.forget (fun y hy => ?_), heapAt_setCell_self _ ha, hfound, rfl⟩
  simp only [List.mem_cons, List.not_mem_nil, or_false] at hy
  have hge : s.heap.size ≤ W.heap.size := X.same.2.1
  rcases hy with rfl | rfl | rfl | rfl | rfl <;> exact Nat.le_trans hge (Nat.le_add_right _ 2)
set_option maxHeartbeats 1000000 in
/-- the machine throws NullPointerException, no traces kept: from its note over the frame g to 'throwing' over the same frame (follows the proof of Stand.vmThrowsNpe, Shelf42/KT2.lean; throwsNpeColdBareVAt, Shelf42/NT91.lean, called) -/
theorem vx_npeAt {p : Program} {l : Launch} {e : Env} {R : Room} {s : State} {m₀ : MethodId} {args : Array Value} {below : List Frame} {meth : Method} {c : Code} {W : State} {locs : List Loc} {cells slots : Nat}
    (X : Stand p l e R s m₀ args below meth c W locs cells slots) (hexec : p.tables.exec = Jvm.exec) (htr : e.platform.stackTraces = false) {n : Nat}
    (h : ∀ a ∈ Bundle.npeArmAtoms n, a.before args s = true)
    (hlocs : ∀ x ∈ locs, ∀ cell, s.heap[x.base]? = some cell → cell.vm.isStatics = false)
    {g : JFrame} (hg : g.method = m₀) (hsize : g.locals.size = c.maxLocals)
    (hRframes : 7 < R.frames) (hRlocals : 2 * g.monitorRoom + (g.stack.map fun v => v.category).sum + 10240 ≤ R.locals)
    (hRcells : cells + 1 ≤ R.cells) (hRslots : slots + n ≤ R.slots) (hlocks : meth.locks = false) :
    ∃ (S : State) (q : Addr) (ce : Cell), (∀ target, Steps p.tables e below ((S.setTop g).pushFrame (.throwing q)) target → Steps p.tables e below ((W.setTop g).pushFrame (.throwNew "java/lang/NullPointerException" none none)) target) ∧
      Stand p l e R s m₀ args below meth c S locs (cells + 1) (slots + n) ∧ S.heap[q]? = some ce ∧ s.vm.findClass "java/lang/NullPointerException" = some ce.cls ∧ ce.vm = .none := by
  have howns : e.platform.frameOwnsMonitors = true := by rw [X.admits.platform]
  have hfin : e.platform.finalization = false := by rw [X.admits.platform]
  have hpl : e.platform.magicAccessors = ({} : Platform).magicAccessors := by rw [X.admits.platform]
  have hpl2 : e.platform.arrayCloneIsPublic = true := by rw [X.admits.platform]
  have a' : ∀ x, x ∈ Bundle.npeArmAtoms n → x.holds args s none s [] = true := fun x hx => h x hx
  obtain ⟨T, Z, L, LZ, Y⟩ := ThrowableC.of_atoms (args := args) howns hfin hpl (fun x hx => h x (by simp [Bundle.npeArmAtoms, hx]))
  obtain ⟨N, LN, hcN, hnNF, hordN, hffS⟩ := NpeC.of_atoms (args := args) hpl hpl2 L Y (fun x hx => h x (by simp [Bundle.npeArmAtoms, hx]))
  obtain ⟨P1, L1, hP1m, hP1s⟩ := PassC.of_atoms (args := args) (s := s) hpl (X := Bundle.nN) (Y := Bundle.rN) (by decide) (by decide) LibCode.NullPointerException.Init0.at_0 LibCode.NullPointerException.Init0.at_1 LibCode.NullPointerException.Init0.at_4 (fun x hx => h x (by simp [Bundle.npeArmAtoms, hx]))
  obtain ⟨PR, LR, hPRm, hPRs⟩ := PassC.of_atoms (args := args) (s := s) hpl (X := Bundle.rN) (Y := Bundle.eN) (by decide) (by decide) LibCode.RuntimeException.Init0.at_0 LibCode.RuntimeException.Init0.at_1 LibCode.RuntimeException.Init0.at_4 (fun x hx => h x (by simp [Bundle.npeArmAtoms, hx]))
  obtain ⟨PE, LEx, hPEm, hPEs⟩ := PassC.of_atoms (args := args) (s := s) hpl (X := Bundle.eN) (Y := Bundle.tN) (by decide) (by decide) LibCode.Exception.Init0.at_0 LibCode.Exception.Init0.at_1 LibCode.Exception.Init0.at_4 (fun x hx => h x (by simp [Bundle.npeArmAtoms, hx]))
  have hfound : s.vm.findClass Bundle.nN = some P1.m.cls := findClass_of_methodNamed hP1m
  have ecls : N.cN = P1.m.cls := Option.some.inj (hcN.symm.trans hfound)
  have hk : s.vm.classes[P1.m.cls]? = some N.kN := by rw [← ecls]; exact LN.cls
  have hinit := Cond.initialized_spec hfound hk (a' (.initialized Bundle.nN) (by simp [Bundle.npeArmAtoms]))
  have hctor : N.kN.findMethod "<init>" "()V" = some P1.m.idx := findMethod_of_methodNamed hP1m hk
  obtain ⟨c1, k1, hc1, hk1, -, -, -, hn⟩ := Cond.instantiable_spec (a' (.instantiable Bundle.nN n) (by simp [Bundle.npeArmAtoms]))
  cases Option.some.inj (hc1.symm.trans hfound)
  cases Option.some.inj (hk1.symm.trans hk)
  have hfsz : (freshCell P1.m.cls N.kN).slots.size = n := by simp [hn]
  have hlink1 : P1.sup = PR.m := Option.some.inj (hP1s.symm.trans hPRm)
  have hlinkR : PR.sup = PE.m := Option.some.inj (hPRs.symm.trans hPEm)
  have hlinkE : PE.sup = Z.m T.toThrowableT := Option.some.inj (hPEs.symm.trans Y.init0)
  have hLs : ∀ P, P ∈ [PR, PE] → P.Links0 e.platform s := fun P hP => by
    simp only [List.mem_cons, List.not_mem_nil, or_false] at hP
    rcases hP with rfl | rfl
    · exact LR
    · exact LEx
  have hsel0 : selectMethod e.platform s.vm P1.m.cls T.fill0 = .method T.fill0 := by
    obtain ⟨c2, r2, m2, q1, q2, q3, q4, -⟩ := Cond.selects_spec (a' (.selects Bundle.nN Bundle.tFill0 Bundle.tFill0) (by simp [Bundle.npeArmAtoms]))
    cases Option.some.inj (q1.symm.trans hfound)
    cases Option.some.inj (q2.symm.trans (State.methodFound?_of_named Y.fill0 (by decide)))
    cases Option.some.inj (q3.symm.trans Y.fill0)
    rw [Launch.admits_selectMethod X.admits]; exact q4
  have hselF : selectMethod e.platform s.vm P1.m.cls T.fill = .method N.fill := by
    obtain ⟨c2, r2, m2, q1, q2, q3, q4, -⟩ := Cond.selects_spec (a' (.selects Bundle.nN Bundle.tFill Bundle.nFill) (by simp [Bundle.npeArmAtoms]))
    cases Option.some.inj (q1.symm.trans hfound)
    cases Option.some.inj (q2.symm.trans (State.methodFound?_of_named Y.fill (by decide)))
    cases Option.some.inj (q3.symm.trans hnNF)
    rw [Launch.admits_selectMethod X.admits]; exact q4
  obtain ⟨cellS0, hcS0, hiss⟩ := Y.statics
  obtain ⟨u0, hu0⟩ := Cond.staticRefV Y.unassigned L.unassignedStatic L.statics hcS0 hiss (a' (.isRef (.static Bundle.tN "UNASSIGNED_STACK" Bundle.steD)) (by simp [Bundle.npeArmAtoms]))
  obtain ⟨sen, hsen⟩ := Cond.staticRefV Y.sentinel L.sentinelStatic L.statics hcS0 hiss (a' (.isRef (.static Bundle.tN "SUPPRESSED_SENTINEL" Bundle.listD)) (by simp [Bundle.npeArmAtoms]))
  obtain ⟨ci198, i198, fB, hk198, hg198, ha198, hsB, -, hnB, htB, hffB⟩ := Cond.ownField (t := .object "java/lang/Object") Y.found L.cls (by decide +kernel) (a' (.fieldLink Bundle.tN 198 Bundle.tN "backtrace" Bundle.objD) (by simp [Bundle.npeArmAtoms])) (a' (.lays Bundle.tN Bundle.tN "backtrace" Bundle.objD) (by simp [Bundle.npeArmAtoms])) e.platform hpl
  obtain ⟨cellS, hcS', heS, -, hkeep⟩ := X.same.2.2.2.2.2 T.aS cellS0 hcS0
  have hcellS : W.heap[T.aS]? = some cellS := hcS'
  have hout' : ∀ i, (⟨T.aS, i⟩ : Loc) ∉ locs := fun i hmem => by
    have := hlocs _ hmem cellS0 hcS0
    rw [hiss] at this; cases this
  have hknownS : cellS.vm ≠ .unknown := by
    rw [heS]; intro hu
    rw [show cellS0.vm = .unknown from hu] at hiss
    cases hiss
  have hvU : cellS.slots[T.fUnassigned.slot]? = some u0.v := by rw [hkeep _ (hout' _)]; exact hu0
  have hvSen : cellS.slots[T.fSentinel.slot]? = some sen.v := by rw [hkeep _ (hout' _)]; exact hsen
  obtain ⟨tyC, dC, hdC, hdnC⟩ := Cond.laysAt hfound hk Y.cause (a' (.lays Bundle.nN Bundle.tN "cause" "Ljava/lang/Throwable;") (by simp [Bundle.npeArmAtoms]))
  obtain ⟨tyS, dS, hdS, hdnS⟩ := Cond.laysAt hfound hk Y.stack (a' (.lays Bundle.nN Bundle.tN "stackTrace" Bundle.steD) (by simp [Bundle.npeArmAtoms]))
  obtain ⟨tyP, dP, hdP, hdnP⟩ := Cond.laysAt hfound hk Y.supp (a' (.lays Bundle.nN Bundle.tN "suppressedExceptions" Bundle.listD) (by simp [Bundle.npeArmAtoms]))
  obtain ⟨tyX, dX, hdX, hdnX⟩ := Cond.laysAt hfound hk hffS (a' (.lays Bundle.nN Bundle.nN "extendedMessageState" "I") (by simp [Bundle.npeArmAtoms, Bundle.npeAtoms]))
  obtain ⟨hnX, htX⟩ := State.fieldFound?_type hffS (t := .int) (by decide +kernel)
  have xC := Cond.laysApart hdC hdX hdnC hdnX (by rw [hnX, Y.causeName]; decide)
  have xS := Cond.laysApart hdS hdX hdnS hdnX (by rw [hnX, Y.stackName]; decide)
  have xP := Cond.laysApart hdP hdX hdnP hdnX (by rw [hnX, Y.suppName]; decide)
  have hv0 : (freshCell P1.m.cls N.kN).slots[N.fState.slot]? = some (.int 0) := by
    have := fresh_default (c := P1.m.cls) tyX
    rw [htX] at this; exact this
  obtain ⟨tyB, dB, hdB, hdnB⟩ := Cond.laysAt hfound hk hffB (a' (.lays Bundle.nN Bundle.tN "backtrace" Bundle.objD) (by simp [Bundle.npeArmAtoms]))
  have bC := Cond.laysApart hdB hdC hdnB hdnC (by rw [hnB, Y.causeName]; decide)
  have bS := Cond.laysApart hdB hdS hdnB hdnS (by rw [hnB, Y.stackName]; decide)
  have bP := Cond.laysApart hdB hdP hdnB hdnP (by rw [hnB, Y.suppName]; decide)
  have bX := Cond.laysApart hdB hdX hdnB hdnX (by rw [hnB, hnX]; decide)
  have hbk : ((npeCell N.toNpeT (preparedCellV T.toThrowableT (freshCell P1.m.cls N.kN) W.heap.size u0 sen) W.cur).withEntry W.cur).slots[fB.slot]? = some .null := by
    have := fresh_default (c := P1.m.cls) tyB
    rw [htB] at this
    simpa [npeCell, preparedCellV, Cell.setSlot, Cell.withEntry, Array.getElem?_setIfInBounds, bC, bS, bP, bX, bC.symm, bS.symm, bP.symm, bX.symm, defaultValue] using this
  have tkC := Takes.of_laid (v := .ref W.heap.size) hk hordN tyC (by rw [Y.causeType]; rfl)
  have tkS := Takes.of_laid (v := u0.v) hk hordN tyS (by rw [Y.stackType]; exact fits_refV_array _ u0)
  have tkP := Takes.of_laid (v := sen.v) hk hordN tyP (by rw [Y.suppType]; exact fits_refV_object _ sen)
  have tkX := Takes.of_laid (v := .int 1) hk hordN tyX (by rw [htX]; rfl)
  have hskip : SkipFacts T e.platform s (fun u => u) u0 ((npeCell N.toNpeT (preparedCellV T.toThrowableT (freshCell P1.m.cls N.kN) W.heap.size u0 sen) W.cur).withEntry W.cur) := ⟨{ ci198 := ci198, i198 := i198, fBack := fB }, ⟨hk198, hg198, ha198, hsB⟩, hbk, fun _ _ => rfl⟩
  obtain ⟨vm', X3, st, -⟩ := X.throwsNpeColdBareVAt hexec hg hsize T L Z LZ N LN P1 L1 [PR, PE] hLs hlink1 ⟨hlinkR, hlinkE, trivial⟩ hfound hk hinit hordN hctor hsel0 hselF hcellS hknownS hvU hvSen
    hv0 xC xS xP tkC tkS tkP tkX Y.objLocals hskip (fun _ _ hA hW _ hroom _ hrest => L.nativeOff p htr hA hW hroom hrest) (by simpa using hRframes) hRlocals (by simp) hRcells (by rw [hn]; exact hRslots)
  have hlt : W.heap.size < ((W.pushCell (freshCell P1.m.cls N.kN)).setVm vm').heap.size := by
    show W.heap.size < (W.pushCell (freshCell P1.m.cls N.kN)).heap.size
    rw [State.heap_size_pushCell]; omega
  rw [hfsz] at X3
  obtain ⟨g₁, hfrM⟩ := X3.frames_eq
  have hU : ((((W.pushCell (freshCell P1.m.cls N.kN)).setVm vm').setCell W.heap.size (npeBareV T.toThrowableT N.toNpeT (freshCell P1.m.cls N.kN) W.heap.size u0 sen)).setTop g).pushFrame (.throwing W.heap.size) = (((W.pushCell (freshCell P1.m.cls N.kN)).setVm vm').setCell W.heap.size (npeBareV T.toThrowableT N.toNpeT (freshCell P1.m.cls N.kN) W.heap.size u0 sen)).setFrames (.throwing W.heap.size :: .java g :: below) := by
    rw [State.pushFrame, State.frames_setTop _ hfrM, State.setTop_of_frames _ hfrM, State.setFrames_setFrames]
  refine ⟨_, W.heap.size, _, fun target ht => st.trans (by rw [← hU]; exact ht), X3.forget (fun y hy => ?_), heapAt_setCell_self _ hlt, hfound, rfl⟩
  simp only [List.mem_cons, List.not_mem_nil, or_false] at hy
  have hge : s.heap.size ≤ W.heap.size := X.same.2.1
  rcases hy with rfl | rfl | rfl | rfl | rfl <;> exact hge
/-- the words of a machine's NullPointerException, but the four that speak of the heap -/
def vx_atN (n : Nat) : List Cond := (Bundle.npeArmAtoms n).filter vx_no
/-- the words of a machine's throw with a message, but the four that speak of the heap -/
def vx_atM (X : String) (names : List String) : List Cond := (Bundle.messageArmAtoms X names).filter vx_no
section
variable {p : Program} {l : Launch} {e : Env} {R : Room} {s : State} {m : MethodId} {args : Array Value} {below : List Frame} {meth : Method} {c : Code} {H : Heap} {locs : List Loc} {cells slots : Nat}
/-- a frame seen from a rebased start, seen from the first start again -/
theorem vx_back9 {T S : State} {R' : Room} {k n : Nat} (X : Stand p l e R s m args below meth c T locs cells slots) (Y : Stand p l e R' ((T.setVm s.vm).setFrames (.invoking m args :: below)) m args below meth c T [] 0 0) (Z : Stand p l e R' ((T.setVm s.vm).setFrames (.invoking m args :: below)) m args below meth c S [] k n) :
    Stand p l e R s m args below meth c S locs (cells + k) (slots + n) := by
  have hW0 : s.WarmedH ((T.setVm s.vm).setFrames (.invoking m args :: below)).vm := State.WarmedH.refl s
  refine { admits := X.admits, cas := X.cas, clock := X.clock, frames := X.frames, room := X.room, hears := X.hears, method := X.method, code := X.code, here := Z.here, tail := Z.tail, warmed := State.WarmedH.trans hW0 Z.warmed, limits := Z.limits.trans (Y.limits.symm.trans X.limits), bytes := Z.bytes.trans (Y.bytes.symm.trans X.bytes), same := ?_ }
  obtain ⟨e1, e2⟩ := Z.same
  rw [State.setFrames_setFrames] at e1
  have h2 : (T.setVm s.vm).sameButNew (S.setVm s.vm) [] k n := ⟨e1, e2⟩
  have h3 := X.same.trans h2
  rw [List.append_nil] at h3
  exact h3
/-- from the machine's note that E is thrown here with this text -/
def vx_Note (p : Program) (l : Launch) (e : Env) (R : Room) (s : State) (m : MethodId) (args : Array Value) (below : List Frame) (meth : Method) (c : Code) (H : Heap) (locs : List Loc) (cells slots : Nat) (Q : State → Prop) (g : JFrame) (E text : String) : Prop :=
  ∀ T : State, T.heap = H → Stand p l e R s m args below meth c T locs cells slots → ∃ t, Steps p.tables e below ((T.setTop g).pushFrame (.throwNew E (some text) none)) t ∧ Q t
theorem vx_vm {pc : Nat} {ls : Array Slot} {rest : List Value} {Q : State → Prop} (hexec : p.tables.exec = Jvm.exec) (hl : l.stackTraces = false) {cls text : String} {names : List String} {nb : Nat} {A : Nat → Prop}
    (hcls : Bundle.fit cls = true) (hnames : ∀ n ∈ names, Bundle.fit n = true) (hsoe : (cls == "java/lang/StackOverflowError") = false) (hoom : (cls == "java/lang/OutOfMemoryError") = false)
    (hat : ∀ w ∈ vx_atM cls names, w.before args s = true) (hgood : ∀ w ∈ vx_atM cls names, vx_ot w = true)
    (hU : vx_Zq Bundle.tN "UNASSIGNED_STACK" Bundle.steD A s s.heap) (hN : vx_Zq Bundle.tN "SUPPRESSED_SENTINEL" Bundle.listD A s s.heap) (hS : va_S A s.heap H locs) (hsize : ls.size = c.maxLocals)
    (htext : (text == notModelled) = false) (hnb : (stringBytes (stringToUtf16 text)).size ≤ nb) (hnb1 : nb ≤ 1000)
    (hRframes : names.length + 4 < R.frames) (hRlocals : (rest.map fun v => v.category).sum + 10240 ≤ R.locals) (hshort : 13 * names.length + 55 ≤ 10240) (hRcells : cells + 3 ≤ R.cells) (hRslots : slots + (nb + 10) ≤ R.slots) (hlocks : meth.locks = false)
    (k : ∀ (H1 : Heap) (q9 : Addr) (ce : Cell), H.size ≤ H1.size → (∀ q : Nat, q < H.size → H1[q]? = H[q]?) → va_S A s.heap H1 locs → H1[q9]? = some ce → ce.vm = .none → s.vm.findClass cls = some ce.cls → vx_W p l e R s m args below meth c H1 locs (cells + 3) (slots + (nb + 10)) Q (F0 m pc ls rest) q9) :
    vx_Note p l e R s m args below meth c H locs cells slots Q (F0 m pc ls rest) cls text := by
  intro T hT X
  have htr : e.platform.stackTraces = false := (show e.platform.stackTraces = l.stackTraces by rw [X.admits.platform]).trans hl
  have Y := vx_rebase X (R' := { frames := R.frames, locals := R.locals, cells := 3, slots := nb + 10 }) (Nat.le_refl _) (Nat.le_refl _) hRcells hRslots
  have hhp : ((T.setVm s.vm).setFrames (.invoking m args :: below)).heap = H := hT
  have hW0 : s.WarmedH ((T.setVm s.vm).setFrames (.invoking m args :: below)).vm := State.WarmedH.refl s
  have hat' : ∀ w ∈ vx_atM cls names, w.before args ((T.setVm s.vm).setFrames (.invoking m args :: below)) = true := fun w hw => vx_ot_at hW0 rfl (hgood w hw) (hat w hw)
  have hU' : vx_Zq Bundle.tN "UNASSIGNED_STACK" Bundle.steD A ((T.setVm s.vm).setFrames (.invoking m args :: below)) ((T.setVm s.vm).setFrames (.invoking m args :: below)).heap := by rw [hhp]; exact vx_Zq.moved hW0.alike (hU.kept hS.2.1)
  have hN' : vx_Zq Bundle.tN "SUPPRESSED_SENTINEL" Bundle.listD A ((T.setVm s.vm).setFrames (.invoking m args :: below)) ((T.setVm s.vm).setFrames (.invoking m args :: below)).heap := by rw [hhp]; exact vx_Zq.moved hW0.alike (hN.kept hS.2.1)
  obtain ⟨S, q, ce, st, Z, hce, hcl', hv⟩ := vx_vmAt Y hexec htr (cls := cls) (names := names) (text := text) hcls hnames hsoe hoom (vx_own hat' (vx_isRefq hU'.1) (vx_isRefq hN'.1) hU'.2.word hN'.2.word) (fun x hx => nomatch hx) htext
    (by rw [Launch.admits_arrayLengthLimit X.admits]; omega) (by rw [Launch.admits_maxHeapBytes X.admits]; simp only [componentBytes]; omega)
    (g := F0 m pc ls rest) rfl hsize hRframes (by show 2 * 0 + (rest.map fun v => v.category).sum + 10240 ≤ R.locals; omega) hshort (by show 0 + 3 ≤ 3; omega) (by show 0 + (_ + 4 + 6) ≤ nb + 10; omega) hlocks
  obtain ⟨f1, f2⟩ := vx_frame Z.same
  have f1' : H.size ≤ S.heap.size := by rw [← hT]; exact f1
  have f2' : ∀ q : Nat, q < H.size → S.heap[q]? = H[q]? := fun q hq => by
    rw [← hT]
    exact f2 q (by rw [← hT] at hq; exact hq) (fun z hz => nomatch hz)
  have X5 := vx_back9 X Y Z
  have X6 : Stand p l e R s m args below meth c S locs (cells + 3) (slots + (nb + 10)) := { X5 with same := X5.same.mono (by omega) (by omega) }
  obtain ⟨t, a1, b1⟩ := k S.heap q ce f1' f2' ⟨Nat.le_trans hS.1 f1', fun q h1 h2 => (f2' q (Nat.lt_of_lt_of_le h1 hS.1)).trans (hS.2.1 q h1 h2), hS.2.2⟩ hce hv hcl' S rfl X6
  exact ⟨t, st t a1, b1⟩
/-- from the machine's note that NullPointerException is thrown here -/
def vx_NoteN (p : Program) (l : Launch) (e : Env) (R : Room) (s : State) (m : MethodId) (args : Array Value) (below : List Frame) (meth : Method) (c : Code) (H : Heap) (locs : List Loc) (cells slots : Nat) (Q : State → Prop) (g : JFrame) : Prop :=
  ∀ T : State, T.heap = H → Stand p l e R s m args below meth c T locs cells slots → ∃ t, Steps p.tables e below ((T.setTop g).pushFrame (.throwNew "java/lang/NullPointerException" none none)) t ∧ Q t
theorem vx_npe {pc : Nat} {ls : Array Slot} {rest : List Value} {Q : State → Prop} (hexec : p.tables.exec = Jvm.exec) (hl : l.stackTraces = false) {nb : Nat} {A : Nat → Prop}
    (hat : ∀ w ∈ vx_atN nb, w.before args s = true) (hgood : ∀ w ∈ vx_atN nb, vx_ot w = true)
    (hU : vx_Zq Bundle.tN "UNASSIGNED_STACK" Bundle.steD A s s.heap) (hN : vx_Zq Bundle.tN "SUPPRESSED_SENTINEL" Bundle.listD A s s.heap) (hS : va_S A s.heap H locs) (hsize : ls.size = c.maxLocals)
    (hRframes : 7 < R.frames) (hRlocals : (rest.map fun v => v.category).sum + 10240 ≤ R.locals) (hRcells : cells + 1 ≤ R.cells) (hRslots : slots + nb ≤ R.slots) (hlocks : meth.locks = false)
    (k : ∀ (H1 : Heap) (q9 : Addr) (ce : Cell), H.size ≤ H1.size → (∀ q : Nat, q < H.size → H1[q]? = H[q]?) → va_S A s.heap H1 locs → H1[q9]? = some ce → ce.vm = .none → s.vm.findClass "java/lang/NullPointerException" = some ce.cls → vx_W p l e R s m args below meth c H1 locs (cells + 1) (slots + nb) Q (F0 m pc ls rest) q9) :
    vx_NoteN p l e R s m args below meth c H locs cells slots Q (F0 m pc ls rest) := by
  intro T hT X
  have htr : e.platform.stackTraces = false := (show e.platform.stackTraces = l.stackTraces by rw [X.admits.platform]).trans hl
  have Y := vx_rebase X (R' := { frames := R.frames, locals := R.locals, cells := 1, slots := nb }) (Nat.le_refl _) (Nat.le_refl _) hRcells hRslots
  have hhp : ((T.setVm s.vm).setFrames (.invoking m args :: below)).heap = H := hT
  have hW0 : s.WarmedH ((T.setVm s.vm).setFrames (.invoking m args :: below)).vm := State.WarmedH.refl s
  have hat' : ∀ w ∈ vx_atN nb, w.before args ((T.setVm s.vm).setFrames (.invoking m args :: below)) = true := fun w hw => vx_ot_at hW0 rfl (hgood w hw) (hat w hw)
  have hU' : vx_Zq Bundle.tN "UNASSIGNED_STACK" Bundle.steD A ((T.setVm s.vm).setFrames (.invoking m args :: below)) ((T.setVm s.vm).setFrames (.invoking m args :: below)).heap := by rw [hhp]; exact vx_Zq.moved hW0.alike (hU.kept hS.2.1)
  have hN' : vx_Zq Bundle.tN "SUPPRESSED_SENTINEL" Bundle.listD A ((T.setVm s.vm).setFrames (.invoking m args :: below)) ((T.setVm s.vm).setFrames (.invoking m args :: below)).heap := by rw [hhp]; exact vx_Zq.moved hW0.alike (hN.kept hS.2.1)
  obtain ⟨S, q, ce, st, Z, hce, hcl', hv⟩ := vx_npeAt Y hexec htr (n := nb) (vx_own hat' (vx_isRefq hU'.1) (vx_isRefq hN'.1) hU'.2.word hN'.2.word) (fun x hx => nomatch hx)
    (g := F0 m pc ls rest) rfl hsize hRframes (by show 2 * 0 + (rest.map fun v => v.category).sum + 10240 ≤ R.locals; omega) (by show 0 + 1 ≤ 1; omega) (by show 0 + nb ≤ nb; omega) hlocks
  obtain ⟨f1, f2⟩ := vx_frame Z.same
  have f1' : H.size ≤ S.heap.size := by rw [← hT]; exact f1
  have f2' : ∀ q : Nat, q < H.size → S.heap[q]? = H[q]? := fun q hq => by
    rw [← hT]
    exact f2 q (by rw [← hT] at hq; exact hq) (fun z hz => nomatch hz)
  have X5 := vx_back9 X Y Z
  have X6 : Stand p l e R s m args below meth c S locs (cells + 1) (slots + nb) := { X5 with same := X5.same.mono (by omega) (by omega) }
  obtain ⟨t, a1, b1⟩ := k S.heap q ce f1' f2' ⟨Nat.le_trans hS.1 f1', fun q h1 h2 => (f2' q (Nat.lt_of_lt_of_le h1 hS.1)).trans (hS.2.1 q h1 h2), hS.2.2⟩ hce hv hcl' S rfl X6
  exact ⟨t, st t a1, b1⟩
variable {Q : State → Prop} {cc : ByteArray} {pc : Nat} {ls : Array Slot} {rest : List Value}
theorem vx_idivZ (hexec : p.tables.exec = Jvm.exec) (hb : c.code = cc) {a b : Int32} (h0 : b = 0) (d : decode cc pc = .ok (.idiv, 1)) (k : vx_Note p l e R s m args below meth c H locs cells slots Q (F0 m pc ls rest) "java/lang/ArithmeticException" "/ by zero") :
    W p l e R s m args below meth c H locs cells slots Q (F0 m pc ls (.int b :: .int a :: rest)) := by
  intro T hT X
  obtain ⟨t, st, q⟩ := k T hT X
  exact ⟨t, X.idivZero hexec (g := F0 m pc ls (.int b :: .int a :: rest)) rfl (a := a) (rest := rest) (by rw [h0]) (by rw [hb]; exact d) t st, q⟩
theorem vx_iremZ (hexec : p.tables.exec = Jvm.exec) (hb : c.code = cc) {a b : Int32} (h0 : b = 0) (d : decode cc pc = .ok (.irem, 1)) (k : vx_Note p l e R s m args below meth c H locs cells slots Q (F0 m pc ls rest) "java/lang/ArithmeticException" "/ by zero") :
    W p l e R s m args below meth c H locs cells slots Q (F0 m pc ls (.int b :: .int a :: rest)) := by
  intro T hT X
  obtain ⟨t, st, q⟩ := k T hT X
  exact ⟨t, X.iremZero hexec (g := F0 m pc ls (.int b :: .int a :: rest)) rfl (a := a) (rest := rest) (by rw [h0]) (by rw [hb]; exact d) t st, q⟩
theorem vx_ldivZ (hexec : p.tables.exec = Jvm.exec) (hb : c.code = cc) {a b : Int64} (h0 : b = 0) (d : decode cc pc = .ok (.ldiv, 1)) (k : vx_Note p l e R s m args below meth c H locs cells slots Q (F0 m pc ls rest) "java/lang/ArithmeticException" "/ by zero") :
    W p l e R s m args below meth c H locs cells slots Q (F0 m pc ls (.long b :: .long a :: rest)) := by
  intro T hT X
  obtain ⟨t, st, q⟩ := k T hT X
  exact ⟨t, X.ldivZero hexec (g := F0 m pc ls (.long b :: .long a :: rest)) rfl (a := a) (rest := rest) (by rw [h0]) (by rw [hb]; exact d) t st, q⟩
theorem vx_lremZ (hexec : p.tables.exec = Jvm.exec) (hb : c.code = cc) {a b : Int64} (h0 : b = 0) (d : decode cc pc = .ok (.lrem, 1)) (k : vx_Note p l e R s m args below meth c H locs cells slots Q (F0 m pc ls rest) "java/lang/ArithmeticException" "/ by zero") :
    W p l e R s m args below meth c H locs cells slots Q (F0 m pc ls (.long b :: .long a :: rest)) := by
  intro T hT X
  obtain ⟨t, st, q⟩ := k T hT X
  exact ⟨t, X.lremZero hexec (g := F0 m pc ls (.long b :: .long a :: rest)) rfl (a := a) (rest := rest) (by rw [h0]) (by rw [hb]; exact d) t st, q⟩
theorem vx_ialdZ {D : va_G} {cl : List vw_C} {ws : va_W} {tys : List (ClassId × FieldType)} {a : Nat} (hexec : p.tables.exec = Jvm.exec) (hb : c.code = cc) (hK : va_K D cl tys s) (hP : va_P D cl ws H) (q0 t0 : Nat) {cA : ClassId} {n : Nat} {f : Nat → Int32} (ha : ws[q0]? = some (a, .inl (cA, n, .inl f))) (ht : tys[t0]? = some (cA, .int)) {i : Int32} (hout : ¬ vp_in i n) (hdg : decode cc pc = .ok (.iaload, 1))
    (k : ∀ tx : String, tx = (toString "Index " ++ toString i ++ toString " out of bounds for length " ++ toString n : String) → vx_Note p l e R s m args below meth c H locs cells slots Q (F0 m pc ls rest) "java/lang/ArrayIndexOutOfBoundsException" tx) : W p l e R s m args below meth c H locs cells slots Q (F0 m pc ls (.int i :: .ref a :: rest)) := by
  intro T hT X
  obtain ⟨t, st, q⟩ := k _ rfl T hT X
  refine ⟨t, ?_, q⟩
  have h1 := X.ialoadOut hexec (by rw [hT]; exact hP q0 _ ha) ((hK.2 t0 _ ht).1 n (fun j => .int (f j))) (j := i) (by show (i < 0 ∨ (arrV _ _ _).slots.size ≤ _); rw [arrV_size]; exact Classical.byContradiction hout) (g := F0 m pc ls (.int i :: .ref a :: rest)) rfl (rest := rest) rfl (by rw [hb]; exact hdg) t
  simp only [arrV_size] at h1
  exact h1 st
theorem vx_iastZ {D : va_G} {cl : List vw_C} {ws : va_W} {tys : List (ClassId × FieldType)} {a : Nat} (hexec : p.tables.exec = Jvm.exec) (hb : c.code = cc) (hK : va_K D cl tys s) (hP : va_P D cl ws H) (q0 t0 : Nat) {cA : ClassId} {n : Nat} {f : Nat → Int32} (ha : ws[q0]? = some (a, .inl (cA, n, .inl f))) (ht : tys[t0]? = some (cA, .int)) {i : Int32} {x : Int32} (hout : ¬ vp_in i n) (hdg : decode cc pc = .ok (.iastore, 1))
    (k : ∀ tx : String, tx = (toString "Index " ++ toString i ++ toString " out of bounds for length " ++ toString n : String) → vx_Note p l e R s m args below meth c H locs cells slots Q (F0 m pc ls rest) "java/lang/ArrayIndexOutOfBoundsException" tx) : W p l e R s m args below meth c H locs cells slots Q (F0 m pc ls (.int x :: .int i :: .ref a :: rest)) := by
  intro T hT X
  obtain ⟨t, st, q⟩ := k _ rfl T hT X
  refine ⟨t, ?_, q⟩
  have h1 := X.iastoreOut hexec (by rw [hT]; exact hP q0 _ ha) ((hK.2 t0 _ ht).1 n (fun j => .int (f j))) (j := i) (by show (i < 0 ∨ (arrV _ _ _).slots.size ≤ _); rw [arrV_size]; exact Classical.byContradiction hout) (g := F0 m pc ls (.int x :: .int i :: .ref a :: rest)) rfl (rest := rest) rfl (by rw [hb]; exact hdg) t
  simp only [arrV_size] at h1
  exact h1 st
theorem vx_baldZ {D : va_G} {cl : List vw_C} {ws : va_W} {tys : List (ClassId × FieldType)} {a : Nat} (hexec : p.tables.exec = Jvm.exec) (hb : c.code = cc) (hK : va_K D cl tys s) (hP : va_P D cl ws H) (q0 t0 : Nat) {cA : ClassId} {n : Nat} {f : Nat → Int32} (ha : ws[q0]? = some (a, .inl (cA, n, .inl f))) (ht : tys[t0]? = some (cA, .byte)) {i : Int32} (hout : ¬ vp_in i n) (hdg : decode cc pc = .ok (.baload, 1))
    (k : ∀ tx : String, tx = (toString "Index " ++ toString i ++ toString " out of bounds for length " ++ toString n : String) → vx_Note p l e R s m args below meth c H locs cells slots Q (F0 m pc ls rest) "java/lang/ArrayIndexOutOfBoundsException" tx) : W p l e R s m args below meth c H locs cells slots Q (F0 m pc ls (.int i :: .ref a :: rest)) := by
  intro T hT X
  obtain ⟨t, st, q⟩ := k _ rfl T hT X
  refine ⟨t, ?_, q⟩
  have h1 := X.baloadOut hexec (by rw [hT]; exact hP q0 _ ha) ((hK.2 t0 _ ht).1 n (fun j => .int (f j))) (j := i) (by show (i < 0 ∨ (arrV _ _ _).slots.size ≤ _); rw [arrV_size]; exact Classical.byContradiction hout) (g := F0 m pc ls (.int i :: .ref a :: rest)) rfl (rest := rest) rfl (by rw [hb]; exact hdg) t
  simp only [arrV_size] at h1
  exact h1 st
theorem vx_bastZ {D : va_G} {cl : List vw_C} {ws : va_W} {tys : List (ClassId × FieldType)} {a : Nat} (hexec : p.tables.exec = Jvm.exec) (hb : c.code = cc) (hK : va_K D cl tys s) (hP : va_P D cl ws H) (q0 t0 : Nat) {cA : ClassId} {n : Nat} {f : Nat → Int32} (ha : ws[q0]? = some (a, .inl (cA, n, .inl f))) (ht : tys[t0]? = some (cA, .byte)) {i : Int32} {x : Int32} (hout : ¬ vp_in i n) (hdg : decode cc pc = .ok (.bastore, 1))
    (k : ∀ tx : String, tx = (toString "Index " ++ toString i ++ toString " out of bounds for length " ++ toString n : String) → vx_Note p l e R s m args below meth c H locs cells slots Q (F0 m pc ls rest) "java/lang/ArrayIndexOutOfBoundsException" tx) : W p l e R s m args below meth c H locs cells slots Q (F0 m pc ls (.int x :: .int i :: .ref a :: rest)) := by
  intro T hT X
  obtain ⟨t, st, q⟩ := k _ rfl T hT X
  refine ⟨t, ?_, q⟩
  have h1 := X.bastoreOut hexec (by rw [hT]; exact hP q0 _ ha) ((hK.2 t0 _ ht).1 n (fun j => .int (f j))) (j := i) (by show (i < 0 ∨ (arrV _ _ _).slots.size ≤ _); rw [arrV_size]; exact Classical.byContradiction hout) (g := F0 m pc ls (.int x :: .int i :: .ref a :: rest)) rfl (rest := rest) rfl (by rw [hb]; exact hdg) t
  simp only [arrV_size] at h1
  exact h1 st
theorem vx_zaldZ {D : va_G} {cl : List vw_C} {ws : va_W} {tys : List (ClassId × FieldType)} {a : Nat} (hexec : p.tables.exec = Jvm.exec) (hb : c.code = cc) (hK : va_K D cl tys s) (hP : va_P D cl ws H) (q0 t0 : Nat) {cA : ClassId} {n : Nat} {f : Nat → Int32} (ha : ws[q0]? = some (a, .inl (cA, n, .inl f))) (ht : tys[t0]? = some (cA, .boolean)) {i : Int32} (hout : ¬ vp_in i n) (hdg : decode cc pc = .ok (.baload, 1))
    (k : ∀ tx : String, tx = (toString "Index " ++ toString i ++ toString " out of bounds for length " ++ toString n : String) → vx_Note p l e R s m args below meth c H locs cells slots Q (F0 m pc ls rest) "java/lang/ArrayIndexOutOfBoundsException" tx) : W p l e R s m args below meth c H locs cells slots Q (F0 m pc ls (.int i :: .ref a :: rest)) := by
  intro T hT X
  obtain ⟨t, st, q⟩ := k _ rfl T hT X
  refine ⟨t, ?_, q⟩
  have h1 := X.baloadOut hexec (by rw [hT]; exact hP q0 _ ha) ((hK.2 t0 _ ht).1 n (fun j => .int (f j))) (j := i) (by show (i < 0 ∨ (arrV _ _ _).slots.size ≤ _); rw [arrV_size]; exact Classical.byContradiction hout) (g := F0 m pc ls (.int i :: .ref a :: rest)) rfl (rest := rest) rfl (by rw [hb]; exact hdg) t
  simp only [arrV_size] at h1
  exact h1 st
theorem vx_zastZ {D : va_G} {cl : List vw_C} {ws : va_W} {tys : List (ClassId × FieldType)} {a : Nat} (hexec : p.tables.exec = Jvm.exec) (hb : c.code = cc) (hK : va_K D cl tys s) (hP : va_P D cl ws H) (q0 t0 : Nat) {cA : ClassId} {n : Nat} {f : Nat → Int32} (ha : ws[q0]? = some (a, .inl (cA, n, .inl f))) (ht : tys[t0]? = some (cA, .boolean)) {i : Int32} {x : Int32} (hout : ¬ vp_in i n) (hdg : decode cc pc = .ok (.bastore, 1))
    (k : ∀ tx : String, tx = (toString "Index " ++ toString i ++ toString " out of bounds for length " ++ toString n : String) → vx_Note p l e R s m args below meth c H locs cells slots Q (F0 m pc ls rest) "java/lang/ArrayIndexOutOfBoundsException" tx) : W p l e R s m args below meth c H locs cells slots Q (F0 m pc ls (.int x :: .int i :: .ref a :: rest)) := by
  intro T hT X
  obtain ⟨t, st, q⟩ := k _ rfl T hT X
  refine ⟨t, ?_, q⟩
  have h1 := X.bastoreOut hexec (by rw [hT]; exact hP q0 _ ha) ((hK.2 t0 _ ht).1 n (fun j => .int (f j))) (j := i) (by show (i < 0 ∨ (arrV _ _ _).slots.size ≤ _); rw [arrV_size]; exact Classical.byContradiction hout) (g := F0 m pc ls (.int x :: .int i :: .ref a :: rest)) rfl (rest := rest) rfl (by rw [hb]; exact hdg) t
  simp only [arrV_size] at h1
  exact h1 st
theorem vx_caldZ {D : va_G} {cl : List vw_C} {ws : va_W} {tys : List (ClassId × FieldType)} {a : Nat} (hexec : p.tables.exec = Jvm.exec) (hb : c.code = cc) (hK : va_K D cl tys s) (hP : va_P D cl ws H) (q0 t0 : Nat) {cA : ClassId} {n : Nat} {f : Nat → Int32} (ha : ws[q0]? = some (a, .inl (cA, n, .inl f))) (ht : tys[t0]? = some (cA, .char)) {i : Int32} (hout : ¬ vp_in i n) (hdg : decode cc pc = .ok (.caload, 1))
    (k : ∀ tx : String, tx = (toString "Index " ++ toString i ++ toString " out of bounds for length " ++ toString n : String) → vx_Note p l e R s m args below meth c H locs cells slots Q (F0 m pc ls rest) "java/lang/ArrayIndexOutOfBoundsException" tx) : W p l e R s m args below meth c H locs cells slots Q (F0 m pc ls (.int i :: .ref a :: rest)) := by
  intro T hT X
  obtain ⟨t, st, q⟩ := k _ rfl T hT X
  refine ⟨t, ?_, q⟩
  have h1 := X.caloadOut hexec (by rw [hT]; exact hP q0 _ ha) ((hK.2 t0 _ ht).1 n (fun j => .int (f j))) (j := i) (by show (i < 0 ∨ (arrV _ _ _).slots.size ≤ _); rw [arrV_size]; exact Classical.byContradiction hout) (g := F0 m pc ls (.int i :: .ref a :: rest)) rfl (rest := rest) rfl (by rw [hb]; exact hdg) t
  simp only [arrV_size] at h1
  exact h1 st
theorem vx_castZ {D : va_G} {cl : List vw_C} {ws : va_W} {tys : List (ClassId × FieldType)} {a : Nat} (hexec : p.tables.exec = Jvm.exec) (hb : c.code = cc) (hK : va_K D cl tys s) (hP : va_P D cl ws H) (q0 t0 : Nat) {cA : ClassId} {n : Nat} {f : Nat → Int32} (ha : ws[q0]? = some (a, .inl (cA, n, .inl f))) (ht : tys[t0]? = some (cA, .char)) {i : Int32} {x : Int32} (hout : ¬ vp_in i n) (hdg : decode cc pc = .ok (.castore, 1))
    (k : ∀ tx : String, tx = (toString "Index " ++ toString i ++ toString " out of bounds for length " ++ toString n : String) → vx_Note p l e R s m args below meth c H locs cells slots Q (F0 m pc ls rest) "java/lang/ArrayIndexOutOfBoundsException" tx) : W p l e R s m args below meth c H locs cells slots Q (F0 m pc ls (.int x :: .int i :: .ref a :: rest)) := by
  intro T hT X
  obtain ⟨t, st, q⟩ := k _ rfl T hT X
  refine ⟨t, ?_, q⟩
  have h1 := X.castoreOut hexec (by rw [hT]; exact hP q0 _ ha) ((hK.2 t0 _ ht).1 n (fun j => .int (f j))) (j := i) (by show (i < 0 ∨ (arrV _ _ _).slots.size ≤ _); rw [arrV_size]; exact Classical.byContradiction hout) (g := F0 m pc ls (.int x :: .int i :: .ref a :: rest)) rfl (rest := rest) rfl (by rw [hb]; exact hdg) t
  simp only [arrV_size] at h1
  exact h1 st
theorem vx_saldZ {D : va_G} {cl : List vw_C} {ws : va_W} {tys : List (ClassId × FieldType)} {a : Nat} (hexec : p.tables.exec = Jvm.exec) (hb : c.code = cc) (hK : va_K D cl tys s) (hP : va_P D cl ws H) (q0 t0 : Nat) {cA : ClassId} {n : Nat} {f : Nat → Int32} (ha : ws[q0]? = some (a, .inl (cA, n, .inl f))) (ht : tys[t0]? = some (cA, .short)) {i : Int32} (hout : ¬ vp_in i n) (hdg : decode cc pc = .ok (.saload, 1))
    (k : ∀ tx : String, tx = (toString "Index " ++ toString i ++ toString " out of bounds for length " ++ toString n : String) → vx_Note p l e R s m args below meth c H locs cells slots Q (F0 m pc ls rest) "java/lang/ArrayIndexOutOfBoundsException" tx) : W p l e R s m args below meth c H locs cells slots Q (F0 m pc ls (.int i :: .ref a :: rest)) := by
  intro T hT X
  obtain ⟨t, st, q⟩ := k _ rfl T hT X
  refine ⟨t, ?_, q⟩
  have h1 := X.saloadOut hexec (by rw [hT]; exact hP q0 _ ha) ((hK.2 t0 _ ht).1 n (fun j => .int (f j))) (j := i) (by show (i < 0 ∨ (arrV _ _ _).slots.size ≤ _); rw [arrV_size]; exact Classical.byContradiction hout) (g := F0 m pc ls (.int i :: .ref a :: rest)) rfl (rest := rest) rfl (by rw [hb]; exact hdg) t
  simp only [arrV_size] at h1
  exact h1 st
theorem vx_sastZ {D : va_G} {cl : List vw_C} {ws : va_W} {tys : List (ClassId × FieldType)} {a : Nat} (hexec : p.tables.exec = Jvm.exec) (hb : c.code = cc) (hK : va_K D cl tys s) (hP : va_P D cl ws H) (q0 t0 : Nat) {cA : ClassId} {n : Nat} {f : Nat → Int32} (ha : ws[q0]? = some (a, .inl (cA, n, .inl f))) (ht : tys[t0]? = some (cA, .short)) {i : Int32} {x : Int32} (hout : ¬ vp_in i n) (hdg : decode cc pc = .ok (.sastore, 1))
    (k : ∀ tx : String, tx = (toString "Index " ++ toString i ++ toString " out of bounds for length " ++ toString n : String) → vx_Note p l e R s m args below meth c H locs cells slots Q (F0 m pc ls rest) "java/lang/ArrayIndexOutOfBoundsException" tx) : W p l e R s m args below meth c H locs cells slots Q (F0 m pc ls (.int x :: .int i :: .ref a :: rest)) := by
  intro T hT X
  obtain ⟨t, st, q⟩ := k _ rfl T hT X
  refine ⟨t, ?_, q⟩
  have h1 := X.sastoreOut hexec (by rw [hT]; exact hP q0 _ ha) ((hK.2 t0 _ ht).1 n (fun j => .int (f j))) (j := i) (by show (i < 0 ∨ (arrV _ _ _).slots.size ≤ _); rw [arrV_size]; exact Classical.byContradiction hout) (g := F0 m pc ls (.int x :: .int i :: .ref a :: rest)) rfl (rest := rest) rfl (by rw [hb]; exact hdg) t
  simp only [arrV_size] at h1
  exact h1 st
theorem vx_laldZ {D : va_G} {cl : List vw_C} {ws : va_W} {tys : List (ClassId × FieldType)} {a : Nat} (hexec : p.tables.exec = Jvm.exec) (hb : c.code = cc) (hK : va_K D cl tys s) (hP : va_P D cl ws H) (q0 t0 : Nat) {cA : ClassId} {n : Nat} {f : Nat → Int64} (ha : ws[q0]? = some (a, .inl (cA, n, .inr (.inl f)))) (ht : tys[t0]? = some (cA, .long)) {i : Int32} (hout : ¬ vp_in i n) (hdg : decode cc pc = .ok (.laload, 1))
    (k : ∀ tx : String, tx = (toString "Index " ++ toString i ++ toString " out of bounds for length " ++ toString n : String) → vx_Note p l e R s m args below meth c H locs cells slots Q (F0 m pc ls rest) "java/lang/ArrayIndexOutOfBoundsException" tx) : W p l e R s m args below meth c H locs cells slots Q (F0 m pc ls (.int i :: .ref a :: rest)) := by
  intro T hT X
  obtain ⟨t, st, q⟩ := k _ rfl T hT X
  refine ⟨t, ?_, q⟩
  have h1 := X.laloadOut hexec (by rw [hT]; exact hP q0 _ ha) ((hK.2 t0 _ ht).1 n (fun j => .long (f j))) (j := i) (by show (i < 0 ∨ (arrV _ _ _).slots.size ≤ _); rw [arrV_size]; exact Classical.byContradiction hout) (g := F0 m pc ls (.int i :: .ref a :: rest)) rfl (rest := rest) rfl (by rw [hb]; exact hdg) t
  simp only [arrV_size] at h1
  exact h1 st
theorem vx_lastZ {D : va_G} {cl : List vw_C} {ws : va_W} {tys : List (ClassId × FieldType)} {a : Nat} (hexec : p.tables.exec = Jvm.exec) (hb : c.code = cc) (hK : va_K D cl tys s) (hP : va_P D cl ws H) (q0 t0 : Nat) {cA : ClassId} {n : Nat} {f : Nat → Int64} (ha : ws[q0]? = some (a, .inl (cA, n, .inr (.inl f)))) (ht : tys[t0]? = some (cA, .long)) {i : Int32} {x : Int64} (hout : ¬ vp_in i n) (hdg : decode cc pc = .ok (.lastore, 1))
    (k : ∀ tx : String, tx = (toString "Index " ++ toString i ++ toString " out of bounds for length " ++ toString n : String) → vx_Note p l e R s m args below meth c H locs cells slots Q (F0 m pc ls rest) "java/lang/ArrayIndexOutOfBoundsException" tx) : W p l e R s m args below meth c H locs cells slots Q (F0 m pc ls (.long x :: .int i :: .ref a :: rest)) := by
  intro T hT X
  obtain ⟨t, st, q⟩ := k _ rfl T hT X
  refine ⟨t, ?_, q⟩
  have h1 := X.lastoreOut hexec (by rw [hT]; exact hP q0 _ ha) ((hK.2 t0 _ ht).1 n (fun j => .long (f j))) (j := i) (by show (i < 0 ∨ (arrV _ _ _).slots.size ≤ _); rw [arrV_size]; exact Classical.byContradiction hout) (g := F0 m pc ls (.long x :: .int i :: .ref a :: rest)) rfl (rest := rest) rfl (by rw [hb]; exact hdg) t
  simp only [arrV_size] at h1
  exact h1 st
theorem vx_faldZ {D : va_G} {cl : List vw_C} {ws : va_W} {tys : List (ClassId × FieldType)} {a : Nat} (hexec : p.tables.exec = Jvm.exec) (hb : c.code = cc) (hK : va_K D cl tys s) (hP : va_P D cl ws H) (q0 t0 : Nat) {cA : ClassId} {n : Nat} {f : Nat → UInt32} (ha : ws[q0]? = some (a, .inl (cA, n, .inr (.inr (.inl f))))) (ht : tys[t0]? = some (cA, .float)) {i : Int32} (hout : ¬ vp_in i n) (hdg : decode cc pc = .ok (.faload, 1))
    (k : ∀ tx : String, tx = (toString "Index " ++ toString i ++ toString " out of bounds for length " ++ toString n : String) → vx_Note p l e R s m args below meth c H locs cells slots Q (F0 m pc ls rest) "java/lang/ArrayIndexOutOfBoundsException" tx) : W p l e R s m args below meth c H locs cells slots Q (F0 m pc ls (.int i :: .ref a :: rest)) := by
  intro T hT X
  obtain ⟨t, st, q⟩ := k _ rfl T hT X
  refine ⟨t, ?_, q⟩
  have h1 := X.faloadOut hexec (by rw [hT]; exact hP q0 _ ha) ((hK.2 t0 _ ht).1 n (fun j => .float (f j))) (j := i) (by show (i < 0 ∨ (arrV _ _ _).slots.size ≤ _); rw [arrV_size]; exact Classical.byContradiction hout) (g := F0 m pc ls (.int i :: .ref a :: rest)) rfl (rest := rest) rfl (by rw [hb]; exact hdg) t
  simp only [arrV_size] at h1
  exact h1 st
theorem vx_fastZ {D : va_G} {cl : List vw_C} {ws : va_W} {tys : List (ClassId × FieldType)} {a : Nat} (hexec : p.tables.exec = Jvm.exec) (hb : c.code = cc) (hK : va_K D cl tys s) (hP : va_P D cl ws H) (q0 t0 : Nat) {cA : ClassId} {n : Nat} {f : Nat → UInt32} (ha : ws[q0]? = some (a, .inl (cA, n, .inr (.inr (.inl f))))) (ht : tys[t0]? = some (cA, .float)) {i : Int32} {x : UInt32} (hout : ¬ vp_in i n) (hdg : decode cc pc = .ok (.fastore, 1))
    (k : ∀ tx : String, tx = (toString "Index " ++ toString i ++ toString " out of bounds for length " ++ toString n : String) → vx_Note p l e R s m args below meth c H locs cells slots Q (F0 m pc ls rest) "java/lang/ArrayIndexOutOfBoundsException" tx) : W p l e R s m args below meth c H locs cells slots Q (F0 m pc ls (.float x :: .int i :: .ref a :: rest)) := by
  intro T hT X
  obtain ⟨t, st, q⟩ := k _ rfl T hT X
  refine ⟨t, ?_, q⟩
  have h1 := X.fastoreOut hexec (by rw [hT]; exact hP q0 _ ha) ((hK.2 t0 _ ht).1 n (fun j => .float (f j))) (j := i) (by show (i < 0 ∨ (arrV _ _ _).slots.size ≤ _); rw [arrV_size]; exact Classical.byContradiction hout) (g := F0 m pc ls (.float x :: .int i :: .ref a :: rest)) rfl (rest := rest) rfl (by rw [hb]; exact hdg) t
  simp only [arrV_size] at h1
  exact h1 st
theorem vx_daldZ {D : va_G} {cl : List vw_C} {ws : va_W} {tys : List (ClassId × FieldType)} {a : Nat} (hexec : p.tables.exec = Jvm.exec) (hb : c.code = cc) (hK : va_K D cl tys s) (hP : va_P D cl ws H) (q0 t0 : Nat) {cA : ClassId} {n : Nat} {f : Nat → UInt64} (ha : ws[q0]? = some (a, .inl (cA, n, .inr (.inr (.inr (.inl f)))))) (ht : tys[t0]? = some (cA, .double)) {i : Int32} (hout : ¬ vp_in i n) (hdg : decode cc pc = .ok (.daload, 1))
    (k : ∀ tx : String, tx = (toString "Index " ++ toString i ++ toString " out of bounds for length " ++ toString n : String) → vx_Note p l e R s m args below meth c H locs cells slots Q (F0 m pc ls rest) "java/lang/ArrayIndexOutOfBoundsException" tx) : W p l e R s m args below meth c H locs cells slots Q (F0 m pc ls (.int i :: .ref a :: rest)) := by
  intro T hT X
  obtain ⟨t, st, q⟩ := k _ rfl T hT X
  refine ⟨t, ?_, q⟩
  have h1 := X.daloadOut hexec (by rw [hT]; exact hP q0 _ ha) ((hK.2 t0 _ ht).1 n (fun j => .double (f j))) (j := i) (by show (i < 0 ∨ (arrV _ _ _).slots.size ≤ _); rw [arrV_size]; exact Classical.byContradiction hout) (g := F0 m pc ls (.int i :: .ref a :: rest)) rfl (rest := rest) rfl (by rw [hb]; exact hdg) t
  simp only [arrV_size] at h1
  exact h1 st
theorem vx_dastZ {D : va_G} {cl : List vw_C} {ws : va_W} {tys : List (ClassId × FieldType)} {a : Nat} (hexec : p.tables.exec = Jvm.exec) (hb : c.code = cc) (hK : va_K D cl tys s) (hP : va_P D cl ws H) (q0 t0 : Nat) {cA : ClassId} {n : Nat} {f : Nat → UInt64} (ha : ws[q0]? = some (a, .inl (cA, n, .inr (.inr (.inr (.inl f)))))) (ht : tys[t0]? = some (cA, .double)) {i : Int32} {x : UInt64} (hout : ¬ vp_in i n) (hdg : decode cc pc = .ok (.dastore, 1))
    (k : ∀ tx : String, tx = (toString "Index " ++ toString i ++ toString " out of bounds for length " ++ toString n : String) → vx_Note p l e R s m args below meth c H locs cells slots Q (F0 m pc ls rest) "java/lang/ArrayIndexOutOfBoundsException" tx) : W p l e R s m args below meth c H locs cells slots Q (F0 m pc ls (.double x :: .int i :: .ref a :: rest)) := by
  intro T hT X
  obtain ⟨t, st, q⟩ := k _ rfl T hT X
  refine ⟨t, ?_, q⟩
  have h1 := X.dastoreOut hexec (by rw [hT]; exact hP q0 _ ha) ((hK.2 t0 _ ht).1 n (fun j => .double (f j))) (j := i) (by show (i < 0 ∨ (arrV _ _ _).slots.size ≤ _); rw [arrV_size]; exact Classical.byContradiction hout) (g := F0 m pc ls (.double x :: .int i :: .ref a :: rest)) rfl (rest := rest) rfl (by rw [hb]; exact hdg) t
  simp only [arrV_size] at h1
  exact h1 st
theorem vx_arraylengthN (hexec : p.tables.exec = Jvm.exec) (hb : c.code = cc) (hdg : decode cc pc = .ok (.arraylength, 1)) (k : vx_NoteN p l e R s m args below meth c H locs cells slots Q (F0 m pc ls rest)) : W p l e R s m args below meth c H locs cells slots Q (F0 m pc ls (.null :: rest)) := by
  intro T hT X
  obtain ⟨t, st, q⟩ := k T hT X
  exact ⟨t, X.arraylengthNull hexec (g := F0 m pc ls (.null :: rest)) rfl (rest := rest) rfl (by rw [hb]; exact hdg) t st, q⟩
theorem vx_ialoadN (hexec : p.tables.exec = Jvm.exec) (hb : c.code = cc) {i : Int32} (hdg : decode cc pc = .ok (.iaload, 1)) (k : vx_NoteN p l e R s m args below meth c H locs cells slots Q (F0 m pc ls rest)) : W p l e R s m args below meth c H locs cells slots Q (F0 m pc ls (.int i :: .null :: rest)) := by
  intro T hT X
  obtain ⟨t, st, q⟩ := k T hT X
  exact ⟨t, X.ialoadNull hexec (g := F0 m pc ls (.int i :: .null :: rest)) rfl (rest := rest) rfl (by rw [hb]; exact hdg) t st, q⟩
theorem vx_laloadN (hexec : p.tables.exec = Jvm.exec) (hb : c.code = cc) {i : Int32} (hdg : decode cc pc = .ok (.laload, 1)) (k : vx_NoteN p l e R s m args below meth c H locs cells slots Q (F0 m pc ls rest)) : W p l e R s m args below meth c H locs cells slots Q (F0 m pc ls (.int i :: .null :: rest)) := by
  intro T hT X
  obtain ⟨t, st, q⟩ := k T hT X
  exact ⟨t, X.laloadNull hexec (g := F0 m pc ls (.int i :: .null :: rest)) rfl (rest := rest) rfl (by rw [hb]; exact hdg) t st, q⟩
theorem vx_faloadN (hexec : p.tables.exec = Jvm.exec) (hb : c.code = cc) {i : Int32} (hdg : decode cc pc = .ok (.faload, 1)) (k : vx_NoteN p l e R s m args below meth c H locs cells slots Q (F0 m pc ls rest)) : W p l e R s m args below meth c H locs cells slots Q (F0 m pc ls (.int i :: .null :: rest)) := by
  intro T hT X
  obtain ⟨t, st, q⟩ := k T hT X
  exact ⟨t, X.faloadNull hexec (g := F0 m pc ls (.int i :: .null :: rest)) rfl (rest := rest) rfl (by rw [hb]; exact hdg) t st, q⟩
theorem vx_daloadN (hexec : p.tables.exec = Jvm.exec) (hb : c.code = cc) {i : Int32} (hdg : decode cc pc = .ok (.daload, 1)) (k : vx_NoteN p l e R s m args below meth c H locs cells slots Q (F0 m pc ls rest)) : W p l e R s m args below meth c H locs cells slots Q (F0 m pc ls (.int i :: .null :: rest)) := by
  intro T hT X
  obtain ⟨t, st, q⟩ := k T hT X
  exact ⟨t, X.daloadNull hexec (g := F0 m pc ls (.int i :: .null :: rest)) rfl (rest := rest) rfl (by rw [hb]; exact hdg) t st, q⟩
theorem vx_aaloadN (hexec : p.tables.exec = Jvm.exec) (hb : c.code = cc) {i : Int32} (hdg : decode cc pc = .ok (.aaload, 1)) (k : vx_NoteN p l e R s m args below meth c H locs cells slots Q (F0 m pc ls rest)) : W p l e R s m args below meth c H locs cells slots Q (F0 m pc ls (.int i :: .null :: rest)) := by
  intro T hT X
  obtain ⟨t, st, q⟩ := k T hT X
  exact ⟨t, X.aaloadNull hexec (g := F0 m pc ls (.int i :: .null :: rest)) rfl (rest := rest) rfl (by rw [hb]; exact hdg) t st, q⟩
theorem vx_baloadN (hexec : p.tables.exec = Jvm.exec) (hb : c.code = cc) {i : Int32} (hdg : decode cc pc = .ok (.baload, 1)) (k : vx_NoteN p l e R s m args below meth c H locs cells slots Q (F0 m pc ls rest)) : W p l e R s m args below meth c H locs cells slots Q (F0 m pc ls (.int i :: .null :: rest)) := by
  intro T hT X
  obtain ⟨t, st, q⟩ := k T hT X
  exact ⟨t, X.baloadNull hexec (g := F0 m pc ls (.int i :: .null :: rest)) rfl (rest := rest) rfl (by rw [hb]; exact hdg) t st, q⟩
theorem vx_caloadN (hexec : p.tables.exec = Jvm.exec) (hb : c.code = cc) {i : Int32} (hdg : decode cc pc = .ok (.caload, 1)) (k : vx_NoteN p l e R s m args below meth c H locs cells slots Q (F0 m pc ls rest)) : W p l e R s m args below meth c H locs cells slots Q (F0 m pc ls (.int i :: .null :: rest)) := by
  intro T hT X
  obtain ⟨t, st, q⟩ := k T hT X
  exact ⟨t, X.caloadNull hexec (g := F0 m pc ls (.int i :: .null :: rest)) rfl (rest := rest) rfl (by rw [hb]; exact hdg) t st, q⟩
theorem vx_saloadN (hexec : p.tables.exec = Jvm.exec) (hb : c.code = cc) {i : Int32} (hdg : decode cc pc = .ok (.saload, 1)) (k : vx_NoteN p l e R s m args below meth c H locs cells slots Q (F0 m pc ls rest)) : W p l e R s m args below meth c H locs cells slots Q (F0 m pc ls (.int i :: .null :: rest)) := by
  intro T hT X
  obtain ⟨t, st, q⟩ := k T hT X
  exact ⟨t, X.saloadNull hexec (g := F0 m pc ls (.int i :: .null :: rest)) rfl (rest := rest) rfl (by rw [hb]; exact hdg) t st, q⟩
theorem vx_iastoreN (hexec : p.tables.exec = Jvm.exec) (hb : c.code = cc) {x : Int32} {i : Int32} (hdg : decode cc pc = .ok (.iastore, 1)) (k : vx_NoteN p l e R s m args below meth c H locs cells slots Q (F0 m pc ls rest)) : W p l e R s m args below meth c H locs cells slots Q (F0 m pc ls (.int x :: .int i :: .null :: rest)) := by
  intro T hT X
  obtain ⟨t, st, q⟩ := k T hT X
  exact ⟨t, X.iastoreNull hexec (g := F0 m pc ls (.int x :: .int i :: .null :: rest)) rfl (rest := rest) rfl (by rw [hb]; exact hdg) t st, q⟩
theorem vx_lastoreN (hexec : p.tables.exec = Jvm.exec) (hb : c.code = cc) {x : Int64} {i : Int32} (hdg : decode cc pc = .ok (.lastore, 1)) (k : vx_NoteN p l e R s m args below meth c H locs cells slots Q (F0 m pc ls rest)) : W p l e R s m args below meth c H locs cells slots Q (F0 m pc ls (.long x :: .int i :: .null :: rest)) := by
  intro T hT X
  obtain ⟨t, st, q⟩ := k T hT X
  exact ⟨t, X.lastoreNull hexec (g := F0 m pc ls (.long x :: .int i :: .null :: rest)) rfl (rest := rest) rfl (by rw [hb]; exact hdg) t st, q⟩
theorem vx_fastoreN (hexec : p.tables.exec = Jvm.exec) (hb : c.code = cc) {x : UInt32} {i : Int32} (hdg : decode cc pc = .ok (.fastore, 1)) (k : vx_NoteN p l e R s m args below meth c H locs cells slots Q (F0 m pc ls rest)) : W p l e R s m args below meth c H locs cells slots Q (F0 m pc ls (.float x :: .int i :: .null :: rest)) := by
  intro T hT X
  obtain ⟨t, st, q⟩ := k T hT X
  exact ⟨t, X.fastoreNull hexec (g := F0 m pc ls (.float x :: .int i :: .null :: rest)) rfl (rest := rest) rfl (by rw [hb]; exact hdg) t st, q⟩
theorem vx_dastoreN (hexec : p.tables.exec = Jvm.exec) (hb : c.code = cc) {x : UInt64} {i : Int32} (hdg : decode cc pc = .ok (.dastore, 1)) (k : vx_NoteN p l e R s m args below meth c H locs cells slots Q (F0 m pc ls rest)) : W p l e R s m args below meth c H locs cells slots Q (F0 m pc ls (.double x :: .int i :: .null :: rest)) := by
  intro T hT X
  obtain ⟨t, st, q⟩ := k T hT X
  exact ⟨t, X.dastoreNull hexec (g := F0 m pc ls (.double x :: .int i :: .null :: rest)) rfl (rest := rest) rfl (by rw [hb]; exact hdg) t st, q⟩
theorem vx_bastoreN (hexec : p.tables.exec = Jvm.exec) (hb : c.code = cc) {x : Int32} {i : Int32} (hdg : decode cc pc = .ok (.bastore, 1)) (k : vx_NoteN p l e R s m args below meth c H locs cells slots Q (F0 m pc ls rest)) : W p l e R s m args below meth c H locs cells slots Q (F0 m pc ls (.int x :: .int i :: .null :: rest)) := by
  intro T hT X
  obtain ⟨t, st, q⟩ := k T hT X
  exact ⟨t, X.bastoreNull hexec (g := F0 m pc ls (.int x :: .int i :: .null :: rest)) rfl (rest := rest) rfl (by rw [hb]; exact hdg) t st, q⟩
theorem vx_castoreN (hexec : p.tables.exec = Jvm.exec) (hb : c.code = cc) {x : Int32} {i : Int32} (hdg : decode cc pc = .ok (.castore, 1)) (k : vx_NoteN p l e R s m args below meth c H locs cells slots Q (F0 m pc ls rest)) : W p l e R s m args below meth c H locs cells slots Q (F0 m pc ls (.int x :: .int i :: .null :: rest)) := by
  intro T hT X
  obtain ⟨t, st, q⟩ := k T hT X
  exact ⟨t, X.castoreNull hexec (g := F0 m pc ls (.int x :: .int i :: .null :: rest)) rfl (rest := rest) rfl (by rw [hb]; exact hdg) t st, q⟩
theorem vx_sastoreN (hexec : p.tables.exec = Jvm.exec) (hb : c.code = cc) {x : Int32} {i : Int32} (hdg : decode cc pc = .ok (.sastore, 1)) (k : vx_NoteN p l e R s m args below meth c H locs cells slots Q (F0 m pc ls rest)) : W p l e R s m args below meth c H locs cells slots Q (F0 m pc ls (.int x :: .int i :: .null :: rest)) := by
  intro T hT X
  obtain ⟨t, st, q⟩ := k T hT X
  exact ⟨t, X.sastoreNull hexec (g := F0 m pc ls (.int x :: .int i :: .null :: rest)) rfl (rest := rest) rfl (by rw [hb]; exact hdg) t st, q⟩
theorem vx_invokeN {own C : String} {index maxL : Nat} {y : MethodName} {bytes : ByteArray} {ret : Option FieldType} (hexec : p.tables.exec = Jvm.exec) (hb : c.code = cc) (hown : s.vm.findClass own = some m.cls) (hlink : (Cond.methodLink own index y).before args s = true) (hinst : (Cond.instanceMethod y).before args s = true) (hcode : (Cond.code y bytes maxL ret).before args s = true) (hsel : (Cond.selects C y y).before args s = true)
    (hx : y.cls ≠ "java/lang/invoke/MethodHandle" ∧ y.cls ≠ "java/lang/invoke/VarHandle") {As : List Value} (hlen : (parseMethodDescriptor y.desc).map (fun d => d.parameters.length) = some As.length) (hdg : decode cc pc = .ok (.invokevirtual index, 3))
    (k : vx_NoteN p l e R s m args below meth c H locs cells slots Q (F0 m pc ls rest)) {st0 : List Value} (hst : st0 = As.reverse ++ .null :: rest) : W p l e R s m args below meth c H locs cells slots Q (F0 m pc ls st0) := by
  intro T hT X
  obtain ⟨r0, r, hn, hrm, hstR, hsigR⟩ := va_Decl.of hinst hcode
  obtain ⟨c2, r2, m2, q1, q2, q3, q4, kP, hkP, hkPi⟩ := Cond.selects_spec hsel
  cases hn.symm.trans q3
  have hl9 : As.length = r.sig.parameters.length := by
    rw [hsigR] at hlen
    exact (Option.some.inj hlen).symm
  obtain ⟨vm', X1, st1⟩ := X.invokevirtualNull hexec hown hlink hn hrm hstR hkP hkPi hx (g := F0 m pc ls st0) rfl (argsL := As) (rest := rest) hl9 hst (by rw [hb]; exact hdg)
  obtain ⟨t, st, q⟩ := k (T.setVm vm') hT X1
  exact ⟨t, st1 t st, q⟩
theorem vx_newarrayZ {atype : ArrayType} (hexec : p.tables.exec = Jvm.exec) (hb : c.code = cc) {n : Int32} (h0 : n < 0) (hdg : decode cc pc = .ok (.newarray atype, 2)) (k : ∀ tx : String, tx = toString n → vx_Note p l e R s m args below meth c H locs cells slots Q (F0 m pc ls rest) "java/lang/NegativeArraySizeException" tx) : W p l e R s m args below meth c H locs cells slots Q (F0 m pc ls (.int n :: rest)) := by
  intro T hT X
  obtain ⟨t, st, q⟩ := k _ rfl T hT X
  exact ⟨t, X.newarrayNegative hexec (g := F0 m pc ls (.int n :: rest)) rfl h0 (rest := rest) rfl (by rw [hb]; exact hdg) t st, q⟩
end
end VXM
/-! ===== END ===== -/
end
section
/-! ===== BEGIN printed: names, fields, word lists, decode rows ===== -/
def RX0 : String := "TunnelRing$Course"
def TX0 : u_T := fun k => match k with
  | 0 => ("TunnelRing$Course", "x", "I", false)
  | 1 => ("TunnelRing$Course", "y", "I", false)
  | 2 => ("TunnelRing$Course", "headingX", "I", false)
  | _ => ("TunnelRing$Course", "headingY", "I", false)
def tyX0 : Nat → FieldType := fun k => match k with
  | 0 => .int
  | 1 => .int
  | 2 => .int
  | _ => .int
abbrev wsX00 : List Cond := u_ws RX0 TX0 4
theorem nmX0 : ∀ a, a < 4 → ∀ b, b < 4 → a ≠ b → (TX0 a).2.1 ≠ (TX0 b).2.1 := by decide +kernel
theorem tyX0_ok : ∀ k, k < 4 → parseFieldDescriptor (TX0 k).2.2.1 = some (tyX0 k) := by decide +kernel
abbrev cX0_init : ByteArray := prog_2_method_1_code
def yX0_init : MethodName := ⟨RX0, "<init>", "()V"⟩
abbrev cX0_restart : ByteArray := prog_2_method_2_code
def yX0_restart : MethodName := ⟨RX0, "restart", "()V"⟩
abbrev cX0_bend : ByteArray := prog_2_method_3_code
def yX0_bend : MethodName := ⟨RX0, "bend", "(II)V"⟩
abbrev cX0_unbend : ByteArray := prog_2_method_4_code
def yX0_unbend : MethodName := ⟨RX0, "unbend", "(II)V"⟩
abbrev cX0_addRing : ByteArray := prog_2_method_5_code
def yX0_addRing : MethodName := ⟨RX0, "addRing", "(II)V"⟩
def RX1 : String := "TunnelRing$Ground"
def TX1 : u_T := fun k => match k with
  | 0 => ("TunnelRing$Ground", "need", "[I", true)
  | 1 => ("TunnelRing$Ground", "weakness", "[I", true)
  | 2 => ("TunnelRing$Ground", "sinking", "[I", true)
  | _ => ("TunnelRing$Ground", "known", "I", false)
def tyX1 : Nat → FieldType := fun k => match k with
  | 0 => .array .int
  | 1 => .array .int
  | 2 => .array .int
  | _ => .int
abbrev wsX10 : List Cond := u_ws RX1 TX1 4
theorem nmX1 : ∀ a, a < 4 → ∀ b, b < 4 → a ≠ b → (TX1 a).2.1 ≠ (TX1 b).2.1 := by decide +kernel
theorem tyX1_ok : ∀ k, k < 4 → parseFieldDescriptor (TX1 k).2.2.1 = some (tyX1 k) := by decide +kernel
abbrev cX1_init : ByteArray := prog_3_method_1_code
def yX1_init : MethodName := ⟨RX1, "<init>", "()V"⟩
abbrev cX1_isKnown : ByteArray := prog_3_method_2_code
def yX1_isKnown : MethodName := ⟨RX1, "isKnown", "(I)Z"⟩
abbrev cX1_extend : ByteArray := prog_3_method_3_code
def yX1_extend : MethodName := ⟨RX1, "extend", "(III)V"⟩
abbrev cX1_needOf : ByteArray := prog_3_method_4_code
def yX1_needOf : MethodName := ⟨RX1, "needOf", "(I)I"⟩
abbrev cX1_weaknessOf : ByteArray := prog_3_method_5_code
def yX1_weaknessOf : MethodName := ⟨RX1, "weaknessOf", "(I)I"⟩
abbrev cX1_sinkingOver : ByteArray := prog_3_method_6_code
def yX1_sinkingOver : MethodName := ⟨RX1, "sinkingOver", "(I)I"⟩
abbrev cX1_missing : ByteArray := prog_3_method_7_code
def yX1_missing : MethodName := ⟨RX1, "missing", "(II)I"⟩
abbrev cX1_sink : ByteArray := prog_3_method_8_code
def yX1_sink : MethodName := ⟨RX1, "sink", "(II)V"⟩
def RX2 : String := "TunnelRing$Houses"
def TX2 : u_T := fun k => match k with
  | 0 => ("TunnelRing$Houses", "first", "[I", true)
  | 1 => ("TunnelRing$Houses", "last", "[I", true)
  | 2 => ("TunnelRing$Houses", "limit", "[I", true)
  | 3 => ("TunnelRing$Houses", "rate", "[I", true)
  | 4 => ("TunnelRing$Houses", "paid", "[I", true)
  | _ => ("TunnelRing$Houses", "built", "I", false)
def tyX2 : Nat → FieldType := fun k => match k with
  | 0 => .array .int
  | 1 => .array .int
  | 2 => .array .int
  | 3 => .array .int
  | 4 => .array .int
  | _ => .int
abbrev wsX20 : List Cond := u_ws RX2 TX2 6
theorem nmX2 : ∀ a, a < 6 → ∀ b, b < 6 → a ≠ b → (TX2 a).2.1 ≠ (TX2 b).2.1 := by decide +kernel
theorem tyX2_ok : ∀ k, k < 6 → parseFieldDescriptor (TX2 k).2.2.1 = some (tyX2 k) := by decide +kernel
abbrev cX2_init : ByteArray := prog_4_method_1_code
def yX2_init : MethodName := ⟨RX2, "<init>", "()V"⟩
abbrev cX2_build : ByteArray := prog_4_method_2_code
def yX2_build : MethodName := ⟨RX2, "build", "(IIII)I"⟩
def RX3 : String := "TunnelRing$Plan"
def TX3 : u_T := fun k => match k with
  | 0 => ("TunnelRing$Plan", "bendX", "[I", true)
  | 1 => ("TunnelRing$Plan", "bendY", "[I", true)
  | _ => ("TunnelRing$Plan", "planned", "I", false)
def tyX3 : Nat → FieldType := fun k => match k with
  | 0 => .array .int
  | 1 => .array .int
  | _ => .int
abbrev wsX30 : List Cond := u_ws RX3 TX3 3
theorem nmX3 : ∀ a, a < 3 → ∀ b, b < 3 → a ≠ b → (TX3 a).2.1 ≠ (TX3 b).2.1 := by decide +kernel
theorem tyX3_ok : ∀ k, k < 3 → parseFieldDescriptor (TX3 k).2.2.1 = some (tyX3 k) := by decide +kernel
abbrev cX3_init : ByteArray := prog_5_method_1_code
def yX3_init : MethodName := ⟨RX3, "<init>", "()V"⟩
abbrev cX3_extend : ByteArray := prog_5_method_2_code
def yX3_extend : MethodName := ⟨RX3, "extend", "(III)V"⟩
abbrev cX3_sideBend : ByteArray := prog_5_method_3_code
def yX3_sideBend : MethodName := ⟨RX3, "sideBend", "(I)I"⟩
abbrev cX3_upBend : ByteArray := prog_5_method_4_code
def yX3_upBend : MethodName := ⟨RX3, "upBend", "(I)I"⟩
def RX4 : String := "TunnelRing$Search"
def TX4 : u_T := fun k => match k with
  | 0 => ("TunnelRing$Search", "gap", "LTunnelRing$Course;", true)
  | 1 => ("TunnelRing$Search", "taper", "[I", true)
  | 2 => ("TunnelRing$Search", "bendX", "[I", true)
  | 3 => ("TunnelRing$Search", "bendY", "[I", true)
  | 4 => ("TunnelRing$Search", "rings", "I", false)
  | _ => ("TunnelRing$Search", "least", "I", false)
def tyX4 : Nat → FieldType := fun k => match k with
  | 0 => .object "TunnelRing$Course"
  | 1 => .array .int
  | 2 => .array .int
  | 3 => .array .int
  | 4 => .int
  | _ => .int
abbrev wsX40 : List Cond := u_ws RX4 TX4 6
theorem nmX4 : ∀ a, a < 6 → ∀ b, b < 6 → a ≠ b → (TX4 a).2.1 ≠ (TX4 b).2.1 := by decide +kernel
theorem tyX4_ok : ∀ k, k < 6 → parseFieldDescriptor (TX4 k).2.2.1 = some (tyX4 k) := by decide +kernel
abbrev cX4_init : ByteArray := prog_6_method_1_code
def yX4_init : MethodName := ⟨RX4, "<init>", "()V"⟩
abbrev cX4_restart : ByteArray := prog_6_method_2_code
def yX4_restart : MethodName := ⟨RX4, "restart", "(LTunnelRing$Course;LTunnelRing$Course;)V"⟩
abbrev cX4_add : ByteArray := prog_6_method_3_code
def yX4_add : MethodName := ⟨RX4, "add", "(III)V"⟩
abbrev cX4_tryOut : ByteArray := prog_6_method_4_code
def yX4_tryOut : MethodName := ⟨RX4, "tryOut", "(II)V"⟩
abbrev cX4_takeBack : ByteArray := prog_6_method_5_code
def yX4_takeBack : MethodName := ⟨RX4, "takeBack", "(II)V"⟩
abbrev cX4_changeX : ByteArray := prog_6_method_6_code
def yX4_changeX : MethodName := ⟨RX4, "changeX", "(II)I"⟩
abbrev cX4_changeY : ByteArray := prog_6_method_7_code
def yX4_changeY : MethodName := ⟨RX4, "changeY", "(II)I"⟩
abbrev cX4_deviation : ByteArray := prog_6_method_8_code
def yX4_deviation : MethodName := ⟨RX4, "deviation", "()I"⟩
abbrev cX4_deviationIn : ByteArray := prog_6_method_9_code
def yX4_deviationIn : MethodName := ⟨RX4, "deviationIn", "(I)I"⟩
abbrev cX4_note : ByteArray := prog_6_method_10_code
def yX4_note : MethodName := ⟨RX4, "note", "()V"⟩
abbrev cX4_atLeast : ByteArray := prog_6_method_11_code
def yX4_atLeast : MethodName := ⟨RX4, "atLeast", "(I)I"⟩
def RX5 : String := "TunnelRing$Text"
def TX5 : u_T := fun k => match k with
  | 0 => ("TunnelRing$Text", "sign", "[C", true)
  | _ => ("TunnelRing$Text", "length", "I", false)
def tyX5 : Nat → FieldType := fun k => match k with
  | 0 => .array .char
  | _ => .int
abbrev wsX50 : List Cond := u_ws RX5 TX5 2
theorem nmX5 : ∀ a, a < 2 → ∀ b, b < 2 → a ≠ b → (TX5 a).2.1 ≠ (TX5 b).2.1 := by decide +kernel
theorem tyX5_ok : ∀ k, k < 2 → parseFieldDescriptor (TX5 k).2.2.1 = some (tyX5 k) := by decide +kernel
abbrev cX5_init : ByteArray := prog_7_method_1_code
def yX5_init : MethodName := ⟨RX5, "<init>", "()V"⟩
abbrev cX5_clear : ByteArray := prog_7_method_2_code
def yX5_clear : MethodName := ⟨RX5, "clear", "()V"⟩
abbrev cX5_put : ByteArray := prog_7_method_3_code
def yX5_put : MethodName := ⟨RX5, "put", "(C)V"⟩
abbrev cX5_putDigit : ByteArray := prog_7_method_4_code
def yX5_putDigit : MethodName := ⟨RX5, "putDigit", "(I)V"⟩
def RX6 : String := "TunnelRing$Tube"
def TX6 : u_T := fun k => match k with
  | 0 => ("TunnelRing$Tube", "position", "[I", true)
  | 1 => ("TunnelRing$Tube", "taper", "[I", true)
  | 2 => ("TunnelRing$Tube", "keptX", "[I", true)
  | 3 => ("TunnelRing$Tube", "keptY", "[I", true)
  | 4 => ("TunnelRing$Tube", "end", "LTunnelRing$Course;", true)
  | _ => ("TunnelRing$Tube", "laid", "I", false)
def tyX6 : Nat → FieldType := fun k => match k with
  | 0 => .array .int
  | 1 => .array .int
  | 2 => .array .int
  | 3 => .array .int
  | 4 => .object "TunnelRing$Course"
  | _ => .int
abbrev wsX60 : List Cond := u_ws RX6 TX6 6
theorem nmX6 : ∀ a, a < 6 → ∀ b, b < 6 → a ≠ b → (TX6 a).2.1 ≠ (TX6 b).2.1 := by decide +kernel
theorem tyX6_ok : ∀ k, k < 6 → parseFieldDescriptor (TX6 k).2.2.1 = some (tyX6 k) := by decide +kernel
abbrev cX6_init : ByteArray := prog_8_method_1_code
def yX6_init : MethodName := ⟨RX6, "<init>", "()V"⟩
abbrev cX6_lastPosition : ByteArray := prog_8_method_2_code
def yX6_lastPosition : MethodName := ⟨RX6, "lastPosition", "()I"⟩
abbrev cX6_append : ByteArray := prog_8_method_3_code
def yX6_append : MethodName := ⟨RX6, "append", "(II)V"⟩
def RX7 : String := "TunnelRing$Yard"
def TX7 : u_T := fun k => match k with
  | 0 => ("TunnelRing$Yard", "height", "[I", true)
  | 1 => ("TunnelRing$Yard", "taper", "[I", true)
  | _ => ("TunnelRing$Yard", "castAt", "[I", true)
def tyX7 : Nat → FieldType := fun k => match k with
  | 0 => .array .int
  | 1 => .array .int
  | _ => .array .int
abbrev wsX70 : List Cond := u_ws RX7 TX7 3
theorem nmX7 : ∀ a, a < 3 → ∀ b, b < 3 → a ≠ b → (TX7 a).2.1 ≠ (TX7 b).2.1 := by decide +kernel
theorem tyX7_ok : ∀ k, k < 3 → parseFieldDescriptor (TX7 k).2.2.1 = some (tyX7 k) := by decide +kernel
abbrev cX7_init : ByteArray := prog_9_method_1_code
def yX7_init : MethodName := ⟨RX7, "<init>", "()V"⟩
abbrev cX7_isFull : ByteArray := prog_9_method_2_code
def yX7_isFull : MethodName := ⟨RX7, "isFull", "(I)Z"⟩
abbrev cX7_put : ByteArray := prog_9_method_3_code
def yX7_put : MethodName := ⟨RX7, "put", "(III)V"⟩
abbrev cX7_taperIn : ByteArray := prog_9_method_4_code
def yX7_taperIn : MethodName := ⟨RX7, "taperIn", "(II)I"⟩
abbrev cX7_topTaper : ByteArray := prog_9_method_5_code
def yX7_topTaper : MethodName := ⟨RX7, "topTaper", "(I)I"⟩
abbrev cX7_takeTop : ByteArray := prog_9_method_6_code
def yX7_takeTop : MethodName := ⟨RX7, "takeTop", "(I)V"⟩
abbrev cX7_move : ByteArray := prog_9_method_7_code
def yX7_move : MethodName := ⟨RX7, "move", "(II)V"⟩
abbrev cX7_hoursLeft : ByteArray := prog_9_method_8_code
def yX7_hoursLeft : MethodName := ⟨RX7, "hoursLeft", "(III)I"⟩
abbrev cX7_countRings : ByteArray := prog_9_method_9_code
def yX7_countRings : MethodName := ⟨RX7, "countRings", "()I"⟩
abbrev cX7_countCured : ByteArray := prog_9_method_10_code
def yX7_countCured : MethodName := ⟨RX7, "countCured", "(I)I"⟩
def RX8 : String := "TunnelRing"
def TX8 : u_T := fun k => match k with
  | 0 => ("TunnelRing", "ground", "LTunnelRing$Ground;", true)
  | 1 => ("TunnelRing", "plan", "LTunnelRing$Plan;", true)
  | 2 => ("TunnelRing", "houses", "LTunnelRing$Houses;", true)
  | 3 => ("TunnelRing", "yard", "LTunnelRing$Yard;", true)
  | 4 => ("TunnelRing", "tube", "LTunnelRing$Tube;", true)
  | 5 => ("TunnelRing", "search", "LTunnelRing$Search;", true)
  | 6 => ("TunnelRing", "followed", "LTunnelRing$Course;", true)
  | 7 => ("TunnelRing", "text", "LTunnelRing$Text;", true)
  | 8 => ("TunnelRing", "pressure", "I", false)
  | 9 => ("TunnelRing", "tank", "I", false)
  | 10 => ("TunnelRing", "tolerance", "I", false)
  | _ => ("TunnelRing", "hour", "I", false)
def tyX8 : Nat → FieldType := fun k => match k with
  | 0 => .object "TunnelRing$Ground"
  | 1 => .object "TunnelRing$Plan"
  | 2 => .object "TunnelRing$Houses"
  | 3 => .object "TunnelRing$Yard"
  | 4 => .object "TunnelRing$Tube"
  | 5 => .object "TunnelRing$Search"
  | 6 => .object "TunnelRing$Course"
  | 7 => .object "TunnelRing$Text"
  | 8 => .int
  | 9 => .int
  | 10 => .int
  | _ => .int
abbrev wsX80 : List Cond := u_ws RX8 TX8 12
theorem nmX8 : ∀ a, a < 12 → ∀ b, b < 12 → a ≠ b → (TX8 a).2.1 ≠ (TX8 b).2.1 := by decide +kernel
theorem tyX8_ok : ∀ k, k < 12 → parseFieldDescriptor (TX8 k).2.2.1 = some (tyX8 k) := by decide +kernel
abbrev cX8_init : ByteArray := prog_1_method_1_code
def yX8_init : MethodName := ⟨RX8, "<init>", "()V"⟩
abbrev cX8_addGround : ByteArray := prog_1_method_2_code
def yX8_addGround : MethodName := ⟨RX8, "addGround", "(III)I"⟩
abbrev cX8_addCurve : ByteArray := prog_1_method_3_code
def yX8_addCurve : MethodName := ⟨RX8, "addCurve", "(III)I"⟩
abbrev cX8_needAt : ByteArray := prog_1_method_4_code
def yX8_needAt : MethodName := ⟨RX8, "needAt", "(I)I"⟩
abbrev cX8_weaknessAt : ByteArray := prog_1_method_5_code
def yX8_weaknessAt : MethodName := ⟨RX8, "weaknessAt", "(I)I"⟩
abbrev cX8_addHouse : ByteArray := prog_1_method_6_code
def yX8_addHouse : MethodName := ⟨RX8, "addHouse", "(IIII)I"⟩
abbrev cX8_cast : ByteArray := prog_1_method_7_code
def yX8_cast : MethodName := ⟨RX8, "cast", "(II)I"⟩
abbrev cX8_heightOf : ByteArray := prog_1_method_8_code
def yX8_heightOf : MethodName := ⟨RX8, "heightOf", "(I)I"⟩
abbrev cX8_taperAt : ByteArray := prog_1_method_9_code
def yX8_taperAt : MethodName := ⟨RX8, "taperAt", "(II)I"⟩
abbrev cX8_hoursToCure : ByteArray := prog_1_method_10_code
def yX8_hoursToCure : MethodName := ⟨RX8, "hoursToCure", "(I)I"⟩
abbrev cX8_restack : ByteArray := prog_1_method_11_code
def yX8_restack : MethodName := ⟨RX8, "restack", "(II)I"⟩
abbrev cX8_curedShare : ByteArray := prog_1_method_12_code
def yX8_curedShare : MethodName := ⟨RX8, "curedShare", "()F"⟩
abbrev cX8_setPressure : ByteArray := prog_1_method_13_code
def yX8_setPressure : MethodName := ⟨RX8, "setPressure", "(I)I"⟩
abbrev cX8_addSlurry : ByteArray := prog_1_method_14_code
def yX8_addSlurry : MethodName := ⟨RX8, "addSlurry", "(I)I"⟩
abbrev cX8_slurry : ByteArray := prog_1_method_15_code
def yX8_slurry : MethodName := ⟨RX8, "slurry", "()I"⟩
abbrev cX8_slurryFor : ByteArray := prog_1_method_16_code
def yX8_slurryFor : MethodName := ⟨RX8, "slurryFor", "()I"⟩
abbrev cX8_setTolerance : ByteArray := prog_1_method_17_code
def yX8_setTolerance : MethodName := ⟨RX8, "setTolerance", "(I)I"⟩
abbrev cX8_reasonFor : ByteArray := prog_1_method_18_code
def yX8_reasonFor : MethodName := ⟨RX8, "reasonFor", "(II)C"⟩
abbrev cX8_lay : ByteArray := prog_1_method_19_code
def yX8_lay : MethodName := ⟨RX8, "lay", "(II)I"⟩
abbrev cX8_stop : ByteArray := prog_1_method_20_code
def yX8_stop : MethodName := ⟨RX8, "stop", "(I)I"⟩
abbrev cX8_clock : ByteArray := prog_1_method_21_code
def yX8_clock : MethodName := ⟨RX8, "clock", "()I"⟩
abbrev cX8_ringCount : ByteArray := prog_1_method_22_code
def yX8_ringCount : MethodName := ⟨RX8, "ringCount", "()I"⟩
abbrev cX8_positionOf : ByteArray := prog_1_method_23_code
def yX8_positionOf : MethodName := ⟨RX8, "positionOf", "(I)I"⟩
abbrev cX8_taperOf : ByteArray := prog_1_method_24_code
def yX8_taperOf : MethodName := ⟨RX8, "taperOf", "(I)I"⟩
abbrev cX8_xAfter : ByteArray := prog_1_method_25_code
def yX8_xAfter : MethodName := ⟨RX8, "xAfter", "(I)I"⟩
abbrev cX8_yAfter : ByteArray := prog_1_method_26_code
def yX8_yAfter : MethodName := ⟨RX8, "yAfter", "(I)I"⟩
abbrev cX8_xAnew : ByteArray := prog_1_method_27_code
def yX8_xAnew : MethodName := ⟨RX8, "xAnew", "(I)I"⟩
abbrev cX8_yAnew : ByteArray := prog_1_method_28_code
def yX8_yAnew : MethodName := ⟨RX8, "yAnew", "(I)I"⟩
abbrev cX8_deviationAfter : ByteArray := prog_1_method_29_code
def yX8_deviationAfter : MethodName := ⟨RX8, "deviationAfter", "(I)I"⟩
abbrev cX8_deviationWith : ByteArray := prog_1_method_30_code
def yX8_deviationWith : MethodName := ⟨RX8, "deviationWith", "(II)I"⟩
abbrev cX8_bestPosition : ByteArray := prog_1_method_31_code
def yX8_bestPosition : MethodName := ⟨RX8, "bestPosition", "(I)I"⟩
abbrev cX8_leastDeviation : ByteArray := prog_1_method_32_code
def yX8_leastDeviation : MethodName := ⟨RX8, "leastDeviation", "(II)I"⟩
abbrev cX8_leastByTrying : ByteArray := prog_1_method_33_code
def yX8_leastByTrying : MethodName := ⟨RX8, "leastByTrying", "(II)I"⟩
abbrev cX8_sinkingAt : ByteArray := prog_1_method_34_code
def yX8_sinkingAt : MethodName := ⟨RX8, "sinkingAt", "(I)I"⟩
abbrev cX8_sinkingOf : ByteArray := prog_1_method_35_code
def yX8_sinkingOf : MethodName := ⟨RX8, "sinkingOf", "(I)I"⟩
abbrev cX8_tiltOf : ByteArray := prog_1_method_36_code
def yX8_tiltOf : MethodName := ⟨RX8, "tiltOf", "(I)I"⟩
abbrev cX8_claimOf : ByteArray := prog_1_method_37_code
def yX8_claimOf : MethodName := ⟨RX8, "claimOf", "(I)I"⟩
abbrev cX8_claim : ByteArray := prog_1_method_38_code
def yX8_claim : MethodName := ⟨RX8, "claim", "(I)I"⟩
abbrev cX8_paidTo : ByteArray := prog_1_method_39_code
def yX8_paidTo : MethodName := ⟨RX8, "paidTo", "(I)I"⟩
abbrev cX8_paidTotal : ByteArray := prog_1_method_40_code
def yX8_paidTotal : MethodName := ⟨RX8, "paidTotal", "()J"⟩
abbrev cX8_worstHouse : ByteArray := prog_1_method_41_code
def yX8_worstHouse : MethodName := ⟨RX8, "worstHouse", "()I"⟩
abbrev cX8_meanSinking : ByteArray := prog_1_method_42_code
def yX8_meanSinking : MethodName := ⟨RX8, "meanSinking", "()D"⟩
abbrev cX8_isConsistent : ByteArray := prog_1_method_43_code
def yX8_isConsistent : MethodName := ⟨RX8, "isConsistent", "()Z"⟩
abbrev cX8_writeRings : ByteArray := prog_1_method_44_code
def yX8_writeRings : MethodName := ⟨RX8, "writeRings", "(I)I"⟩
abbrev cX8_lineAt : ByteArray := prog_1_method_45_code
def yX8_lineAt : MethodName := ⟨RX8, "lineAt", "(I)C"⟩
abbrev cX8_checkRange : ByteArray := prog_1_method_46_code
def yX8_checkRange : MethodName := ⟨RX8, "checkRange", "(III)V"⟩
abbrev cX8_checkStack : ByteArray := prog_1_method_47_code
def yX8_checkStack : MethodName := ⟨RX8, "checkStack", "(I)V"⟩
abbrev cX8_checkPosition : ByteArray := prog_1_method_48_code
def yX8_checkPosition : MethodName := ⟨RX8, "checkPosition", "(I)V"⟩
abbrev cX8_checkGround : ByteArray := prog_1_method_49_code
def yX8_checkGround : MethodName := ⟨RX8, "checkGround", "(I)V"⟩
abbrev cX8_checkLaid : ByteArray := prog_1_method_50_code
def yX8_checkLaid : MethodName := ⟨RX8, "checkLaid", "(I)V"⟩
abbrev cX8_checkHouse : ByteArray := prog_1_method_51_code
def yX8_checkHouse : MethodName := ⟨RX8, "checkHouse", "(I)V"⟩
abbrev cX8_checkRings : ByteArray := prog_1_method_52_code
def yX8_checkRings : MethodName := ⟨RX8, "checkRings", "(II)V"⟩
abbrev cX8_fits : ByteArray := prog_1_method_53_code
def yX8_fits : MethodName := ⟨RX8, "fits", "(II)Z"⟩
abbrev cX8_firstReason : ByteArray := prog_1_method_54_code
def yX8_firstReason : MethodName := ⟨RX8, "firstReason", "(II)C"⟩
abbrev cX8_slurryTaken : ByteArray := prog_1_method_55_code
def yX8_slurryTaken : MethodName := ⟨RX8, "slurryTaken", "(I)I"⟩
abbrev cX8_sinkWhileLaying : ByteArray := prog_1_method_56_code
def yX8_sinkWhileLaying : MethodName := ⟨RX8, "sinkWhileLaying", "(I)V"⟩
abbrev cX8_sinkWhileStanding : ByteArray := prog_1_method_57_code
def yX8_sinkWhileStanding : MethodName := ⟨RX8, "sinkWhileStanding", "(II)V"⟩
abbrev cX8_followRings : ByteArray := prog_1_method_58_code
def yX8_followRings : MethodName := ⟨RX8, "followRings", "(I)V"⟩
abbrev cX8_followPlan : ByteArray := prog_1_method_59_code
def yX8_followPlan : MethodName := ⟨RX8, "followPlan", "(I)V"⟩
abbrev cX8_prepareSearch : ByteArray := prog_1_method_60_code
def yX8_prepareSearch : MethodName := ⟨RX8, "prepareSearch", "(II)V"⟩
abbrev cX8_searchFrom : ByteArray := prog_1_method_61_code
def yX8_searchFrom : MethodName := ⟨RX8, "searchFrom", "(LTunnelRing$Search;II)V"⟩
abbrev cX8_tryAllFrom : ByteArray := prog_1_method_62_code
def yX8_tryAllFrom : MethodName := ⟨RX8, "tryAllFrom", "(LTunnelRing$Search;II)V"⟩
abbrev cX8_greatestSinking : ByteArray := prog_1_method_63_code
def yX8_greatestSinking : MethodName := ⟨RX8, "greatestSinking", "(I)I"⟩
abbrev cX8_leastSinking : ByteArray := prog_1_method_64_code
def yX8_leastSinking : MethodName := ⟨RX8, "leastSinking", "(I)I"⟩
abbrev cX8_paymentDue : ByteArray := prog_1_method_65_code
def yX8_paymentDue : MethodName := ⟨RX8, "paymentDue", "(I)I"⟩
def RX9 : String := "TunnelRingModel"
def TX9 : u_T := fun k => match k with
  | 0 => ("TunnelRingModel", "need", "[I", true)
  | 1 => ("TunnelRingModel", "weak", "[I", true)
  | 2 => ("TunnelRingModel", "bendX", "[I", true)
  | 3 => ("TunnelRingModel", "bendY", "[I", true)
  | 4 => ("TunnelRingModel", "sunk", "[I", true)
  | 5 => ("TunnelRingModel", "position", "[I", true)
  | 6 => ("TunnelRingModel", "taper", "[I", true)
  | 7 => ("TunnelRingModel", "x", "[I", true)
  | 8 => ("TunnelRingModel", "y", "[I", true)
  | 9 => ("TunnelRingModel", "stackTaper", "[I", true)
  | 10 => ("TunnelRingModel", "castAt", "[I", true)
  | 11 => ("TunnelRingModel", "height", "[I", true)
  | 12 => ("TunnelRingModel", "first", "[I", true)
  | 13 => ("TunnelRingModel", "last", "[I", true)
  | 14 => ("TunnelRingModel", "limit", "[I", true)
  | 15 => ("TunnelRingModel", "rate", "[I", true)
  | 16 => ("TunnelRingModel", "paid", "[I", true)
  | 17 => ("TunnelRingModel", "line", "[C", true)
  | 18 => ("TunnelRingModel", "grounds", "I", false)
  | 19 => ("TunnelRingModel", "bends", "I", false)
  | 20 => ("TunnelRingModel", "rings", "I", false)
  | 21 => ("TunnelRingModel", "houses", "I", false)
  | 22 => ("TunnelRingModel", "clock", "I", false)
  | 23 => ("TunnelRingModel", "pressure", "I", false)
  | 24 => ("TunnelRingModel", "tank", "I", false)
  | 25 => ("TunnelRingModel", "tolerance", "I", false)
  | 26 => ("TunnelRingModel", "headX", "I", false)
  | 27 => ("TunnelRingModel", "headY", "I", false)
  | 28 => ("TunnelRingModel", "written", "I", false)
  | _ => ("TunnelRingModel", "thrown", "I", false)
def tyX9 : Nat → FieldType := fun k => match k with
  | 0 => .array .int
  | 1 => .array .int
  | 2 => .array .int
  | 3 => .array .int
  | 4 => .array .int
  | 5 => .array .int
  | 6 => .array .int
  | 7 => .array .int
  | 8 => .array .int
  | 9 => .array .int
  | 10 => .array .int
  | 11 => .array .int
  | 12 => .array .int
  | 13 => .array .int
  | 14 => .array .int
  | 15 => .array .int
  | 16 => .array .int
  | 17 => .array .char
  | 18 => .int
  | 19 => .int
  | 20 => .int
  | 21 => .int
  | 22 => .int
  | 23 => .int
  | 24 => .int
  | 25 => .int
  | 26 => .int
  | 27 => .int
  | 28 => .int
  | _ => .int
abbrev wsX90 : List Cond := u_ws RX9 TX9 30
theorem nmX9 : ∀ a, a < 30 → ∀ b, b < 30 → a ≠ b → (TX9 a).2.1 ≠ (TX9 b).2.1 := by decide +kernel
theorem tyX9_ok : ∀ k, k < 30 → parseFieldDescriptor (TX9 k).2.2.1 = some (tyX9 k) := by decide +kernel
abbrev cX9_init : ByteArray := prog_11_method_1_code
def yX9_init : MethodName := ⟨RX9, "<init>", "()V"⟩
abbrev cX9_thrown : ByteArray := prog_11_method_2_code
def yX9_thrown : MethodName := ⟨RX9, "thrown", "()I"⟩
abbrev cX9_isIn : ByteArray := prog_11_method_3_code
def yX9_isIn : MethodName := ⟨RX9, "isIn", "(III)Z"⟩
abbrev cX9_isThrown : ByteArray := prog_11_method_4_code
def yX9_isThrown : MethodName := ⟨RX9, "isThrown", "(ZI)Z"⟩
abbrev cX9_across : ByteArray := prog_11_method_5_code
def yX9_across : MethodName := ⟨RX9, "across", "(I)I"⟩
abbrev cX9_up : ByteArray := prog_11_method_6_code
def yX9_up : MethodName := ⟨RX9, "up", "(I)I"⟩
abbrev cX9_addGround : ByteArray := prog_11_method_7_code
def yX9_addGround : MethodName := ⟨RX9, "addGround", "(III)I"⟩
abbrev cX9_addCurve : ByteArray := prog_11_method_8_code
def yX9_addCurve : MethodName := ⟨RX9, "addCurve", "(III)I"⟩
abbrev cX9_isNoGround : ByteArray := prog_11_method_9_code
def yX9_isNoGround : MethodName := ⟨RX9, "isNoGround", "(I)Z"⟩
abbrev cX9_needAt : ByteArray := prog_11_method_10_code
def yX9_needAt : MethodName := ⟨RX9, "needAt", "(I)I"⟩
abbrev cX9_weaknessAt : ByteArray := prog_11_method_11_code
def yX9_weaknessAt : MethodName := ⟨RX9, "weaknessAt", "(I)I"⟩
abbrev cX9_addHouse : ByteArray := prog_11_method_12_code
def yX9_addHouse : MethodName := ⟨RX9, "addHouse", "(IIII)I"⟩
abbrev cX9_isNoStack : ByteArray := prog_11_method_13_code
def yX9_isNoStack : MethodName := ⟨RX9, "isNoStack", "(I)Z"⟩
abbrev cX9_top : ByteArray := prog_11_method_14_code
def yX9_top : MethodName := ⟨RX9, "top", "(I)I"⟩
abbrev cX9_cast : ByteArray := prog_11_method_15_code
def yX9_cast : MethodName := ⟨RX9, "cast", "(II)I"⟩
abbrev cX9_heightOf : ByteArray := prog_11_method_16_code
def yX9_heightOf : MethodName := ⟨RX9, "heightOf", "(I)I"⟩
abbrev cX9_taperAt : ByteArray := prog_11_method_17_code
def yX9_taperAt : MethodName := ⟨RX9, "taperAt", "(II)I"⟩
abbrev cX9_toCure : ByteArray := prog_11_method_18_code
def yX9_toCure : MethodName := ⟨RX9, "toCure", "(I)I"⟩
abbrev cX9_isEmpty : ByteArray := prog_11_method_19_code
def yX9_isEmpty : MethodName := ⟨RX9, "isEmpty", "(I)Z"⟩
abbrev cX9_hoursToCure : ByteArray := prog_11_method_20_code
def yX9_hoursToCure : MethodName := ⟨RX9, "hoursToCure", "(I)I"⟩
abbrev cX9_restack : ByteArray := prog_11_method_21_code
def yX9_restack : MethodName := ⟨RX9, "restack", "(II)I"⟩
abbrev cX9_curedShare : ByteArray := prog_11_method_22_code
def yX9_curedShare : MethodName := ⟨RX9, "curedShare", "()F"⟩
abbrev cX9_setPressure : ByteArray := prog_11_method_23_code
def yX9_setPressure : MethodName := ⟨RX9, "setPressure", "(I)I"⟩
abbrev cX9_addSlurry : ByteArray := prog_11_method_24_code
def yX9_addSlurry : MethodName := ⟨RX9, "addSlurry", "(I)I"⟩
abbrev cX9_slurry : ByteArray := prog_11_method_25_code
def yX9_slurry : MethodName := ⟨RX9, "slurry", "()I"⟩
abbrev cX9_takes : ByteArray := prog_11_method_26_code
def yX9_takes : MethodName := ⟨RX9, "takes", "()I"⟩
abbrev cX9_slurryFor : ByteArray := prog_11_method_27_code
def yX9_slurryFor : MethodName := ⟨RX9, "slurryFor", "()I"⟩
abbrev cX9_setTolerance : ByteArray := prog_11_method_28_code
def yX9_setTolerance : MethodName := ⟨RX9, "setTolerance", "(I)I"⟩
abbrev cX9_planned : ByteArray := prog_11_method_29_code
def yX9_planned : MethodName := ⟨RX9, "planned", "(I[I)I"⟩
abbrev cX9_apart : ByteArray := prog_11_method_30_code
def yX9_apart : MethodName := ⟨RX9, "apart", "(III)I"⟩
abbrev cX9_lastX : ByteArray := prog_11_method_31_code
def yX9_lastX : MethodName := ⟨RX9, "lastX", "()I"⟩
abbrev cX9_lastY : ByteArray := prog_11_method_32_code
def yX9_lastY : MethodName := ⟨RX9, "lastY", "()I"⟩
abbrev cX9_deviation : ByteArray := prog_11_method_33_code
def yX9_deviation : MethodName := ⟨RX9, "deviation", "(II)I"⟩
abbrev cX9_fits : ByteArray := prog_11_method_34_code
def yX9_fits : MethodName := ⟨RX9, "fits", "(II)Z"⟩
abbrev cX9_before : ByteArray := prog_11_method_35_code
def yX9_before : MethodName := ⟨RX9, "before", "()I"⟩
abbrev cX9_reason : ByteArray := prog_11_method_36_code
def yX9_reason : MethodName := ⟨RX9, "reason", "(II)C"⟩
abbrev cX9_isNoPosition : ByteArray := prog_11_method_37_code
def yX9_isNoPosition : MethodName := ⟨RX9, "isNoPosition", "(II)Z"⟩
abbrev cX9_reasonFor : ByteArray := prog_11_method_38_code
def yX9_reasonFor : MethodName := ⟨RX9, "reasonFor", "(II)C"⟩
abbrev cX9_sinks : ByteArray := prog_11_method_39_code
def yX9_sinks : MethodName := ⟨RX9, "sinks", "(II)V"⟩
abbrev cX9_lay : ByteArray := prog_11_method_40_code
def yX9_lay : MethodName := ⟨RX9, "lay", "(II)I"⟩
abbrev cX9_stop : ByteArray := prog_11_method_41_code
def yX9_stop : MethodName := ⟨RX9, "stop", "(I)I"⟩
abbrev cX9_clock : ByteArray := prog_11_method_42_code
def yX9_clock : MethodName := ⟨RX9, "clock", "()I"⟩
abbrev cX9_ringCount : ByteArray := prog_11_method_43_code
def yX9_ringCount : MethodName := ⟨RX9, "ringCount", "()I"⟩
abbrev cX9_isNoRing : ByteArray := prog_11_method_44_code
def yX9_isNoRing : MethodName := ⟨RX9, "isNoRing", "(I)Z"⟩
abbrev cX9_positionOf : ByteArray := prog_11_method_45_code
def yX9_positionOf : MethodName := ⟨RX9, "positionOf", "(I)I"⟩
abbrev cX9_taperOf : ByteArray := prog_11_method_46_code
def yX9_taperOf : MethodName := ⟨RX9, "taperOf", "(I)I"⟩
abbrev cX9_xAfter : ByteArray := prog_11_method_47_code
def yX9_xAfter : MethodName := ⟨RX9, "xAfter", "(I)I"⟩
abbrev cX9_yAfter : ByteArray := prog_11_method_48_code
def yX9_yAfter : MethodName := ⟨RX9, "yAfter", "(I)I"⟩
abbrev cX9_xAnew : ByteArray := prog_11_method_49_code
def yX9_xAnew : MethodName := ⟨RX9, "xAnew", "(I)I"⟩
abbrev cX9_yAnew : ByteArray := prog_11_method_50_code
def yX9_yAnew : MethodName := ⟨RX9, "yAnew", "(I)I"⟩
abbrev cX9_deviationAfter : ByteArray := prog_11_method_51_code
def yX9_deviationAfter : MethodName := ⟨RX9, "deviationAfter", "(I)I"⟩
abbrev cX9_deviationWith : ByteArray := prog_11_method_52_code
def yX9_deviationWith : MethodName := ⟨RX9, "deviationWith", "(II)I"⟩
abbrev cX9_bestPosition : ByteArray := prog_11_method_53_code
def yX9_bestPosition : MethodName := ⟨RX9, "bestPosition", "(I)I"⟩
abbrev cX9_least : ByteArray := prog_11_method_54_code
def yX9_least : MethodName := ⟨RX9, "least", "(IIIIIIII)I"⟩
abbrev cX9_leastDeviation : ByteArray := prog_11_method_55_code
def yX9_leastDeviation : MethodName := ⟨RX9, "leastDeviation", "(II)I"⟩
abbrev cX9_leastByTrying : ByteArray := prog_11_method_56_code
def yX9_leastByTrying : MethodName := ⟨RX9, "leastByTrying", "(II)I"⟩
abbrev cX9_sinkingAt : ByteArray := prog_11_method_57_code
def yX9_sinkingAt : MethodName := ⟨RX9, "sinkingAt", "(I)I"⟩
abbrev cX9_isNoHouse : ByteArray := prog_11_method_58_code
def yX9_isNoHouse : MethodName := ⟨RX9, "isNoHouse", "(I)Z"⟩
abbrev cX9_most : ByteArray := prog_11_method_59_code
def yX9_most : MethodName := ⟨RX9, "most", "(I)I"⟩
abbrev cX9_sinkingOf : ByteArray := prog_11_method_60_code
def yX9_sinkingOf : MethodName := ⟨RX9, "sinkingOf", "(I)I"⟩
abbrev cX9_tiltOf : ByteArray := prog_11_method_61_code
def yX9_tiltOf : MethodName := ⟨RX9, "tiltOf", "(I)I"⟩
abbrev cX9_owed : ByteArray := prog_11_method_62_code
def yX9_owed : MethodName := ⟨RX9, "owed", "(I)I"⟩
abbrev cX9_claimOf : ByteArray := prog_11_method_63_code
def yX9_claimOf : MethodName := ⟨RX9, "claimOf", "(I)I"⟩
abbrev cX9_claim : ByteArray := prog_11_method_64_code
def yX9_claim : MethodName := ⟨RX9, "claim", "(I)I"⟩
abbrev cX9_paidTo : ByteArray := prog_11_method_65_code
def yX9_paidTo : MethodName := ⟨RX9, "paidTo", "(I)I"⟩
abbrev cX9_paidTotal : ByteArray := prog_11_method_66_code
def yX9_paidTotal : MethodName := ⟨RX9, "paidTotal", "()J"⟩
abbrev cX9_worstHouse : ByteArray := prog_11_method_67_code
def yX9_worstHouse : MethodName := ⟨RX9, "worstHouse", "()I"⟩
abbrev cX9_meanSinking : ByteArray := prog_11_method_68_code
def yX9_meanSinking : MethodName := ⟨RX9, "meanSinking", "()D"⟩
abbrev cX9_isConsistent : ByteArray := prog_11_method_69_code
def yX9_isConsistent : MethodName := ⟨RX9, "isConsistent", "()Z"⟩
abbrev cX9_writes : ByteArray := prog_11_method_70_code
def yX9_writes : MethodName := ⟨RX9, "writes", "(I)V"⟩
abbrev cX9_writeRings : ByteArray := prog_11_method_71_code
def yX9_writeRings : MethodName := ⟨RX9, "writeRings", "(I)I"⟩
abbrev cX9_lineAt : ByteArray := prog_11_method_72_code
def yX9_lineAt : MethodName := ⟨RX9, "lineAt", "(I)C"⟩
def RJx145de : String := "java/io/Serializable"
def TJx145de : u_T := fun k => match k with
  | _ => ("", "", "", false)
def tyJx145de : Nat → FieldType := fun k => match k with
  | _ => .int
abbrev wsJx145de0 : List Cond := u_ws RJx145de TJx145de 0
theorem nmJx145de : ∀ a, a < 0 → ∀ b, b < 0 → a ≠ b → (TJx145de a).2.1 ≠ (TJx145de b).2.1 := by decide +kernel
theorem tyJx145de_ok : ∀ k, k < 0 → parseFieldDescriptor (TJx145de k).2.2.1 = some (tyJx145de k) := by decide +kernel
def RJx00060 : String := "java/lang/ArrayIndexOutOfBoundsException"
def TJx00060 : u_T := fun k => match k with
  | 0 => ("java/lang/Throwable", "backtrace", "Ljava/lang/Object;", false)
  | 1 => ("java/lang/Throwable", "detailMessage", "Ljava/lang/String;", false)
  | 2 => ("java/lang/Throwable", "cause", "Ljava/lang/Throwable;", false)
  | 3 => ("java/lang/Throwable", "stackTrace", "[Ljava/lang/StackTraceElement;", false)
  | 4 => ("java/lang/Throwable", "depth", "I", false)
  | _ => ("java/lang/Throwable", "suppressedExceptions", "Ljava/util/List;", false)
def tyJx00060 : Nat → FieldType := fun k => match k with
  | 0 => .object "java/lang/Object"
  | 1 => .object "java/lang/String"
  | 2 => .object "java/lang/Throwable"
  | 3 => .array (.object "java/lang/StackTraceElement")
  | 4 => .int
  | _ => .object "java/util/List"
abbrev wsJx000600 : List Cond := u_ws RJx00060 TJx00060 6
theorem nmJx00060 : ∀ a, a < 6 → ∀ b, b < 6 → a ≠ b → (TJx00060 a).2.1 ≠ (TJx00060 b).2.1 := by decide +kernel
theorem tyJx00060_ok : ∀ k, k < 6 → parseFieldDescriptor (TJx00060 k).2.2.1 = some (tyJx00060 k) := by decide +kernel
abbrev cJx00060_init_a7421 : ByteArray := prog_14_method_2_code
def yJx00060_init_a7421 : MethodName := ⟨RJx00060, "<init>", "(Ljava/lang/String;)V"⟩
def RJ9 : String := "java/lang/Math"
def TJ9 : u_T := fun k => match k with
  | _ => ("", "", "", false)
def tyJ9 : Nat → FieldType := fun k => match k with
  | _ => .int
abbrev wsJ90 : List Cond := u_ws RJ9 TJ9 0
theorem nmJ9 : ∀ a, a < 0 → ∀ b, b < 0 → a ≠ b → (TJ9 a).2.1 ≠ (TJ9 b).2.1 := by decide +kernel
theorem tyJ9_ok : ∀ k, k < 0 → parseFieldDescriptor (TJ9 k).2.2.1 = some (tyJ9 k) := by decide +kernel
abbrev cJ9_abs_0f7a4 : ByteArray := prog_19_method_59_code
def yJ9_abs_0f7a4 : MethodName := ⟨RJ9, "abs", "(I)I"⟩
abbrev cJ9_max_7cf53 : ByteArray := prog_19_method_65_code
def yJ9_max_7cf53 : MethodName := ⟨RJ9, "max", "(II)I"⟩
abbrev cJ9_min_7cf53 : ByteArray := prog_19_method_69_code
def yJ9_min_7cf53 : MethodName := ⟨RJ9, "min", "(II)I"⟩
def RJ0 : String := "java/lang/String"
def TJ0 : u_T := fun k => match k with
  | 0 => ("java/lang/String", "value", "[B", true)
  | _ => ("java/lang/String", "coder", "B", true)
def tyJ0 : Nat → FieldType := fun k => match k with
  | 0 => .array .byte
  | _ => .byte
abbrev wsJ00 : List Cond := u_ws RJ0 TJ0 2
theorem nmJ0 : ∀ a, a < 2 → ∀ b, b < 2 → a ≠ b → (TJ0 a).2.1 ≠ (TJ0 b).2.1 := by decide +kernel
theorem tyJ0_ok : ∀ k, k < 2 → parseFieldDescriptor (TJ0 k).2.2.1 = some (tyJ0 k) := by decide +kernel
def RL : String := "TunnelRingLaw"
abbrev cL_addGround : ByteArray := method_3_code
def yL_addGround : MethodName := ⟨RL, "addGround", "(LTunnelRing;III[J)I"⟩
abbrev cL_addCurve : ByteArray := method_4_code
def yL_addCurve : MethodName := ⟨RL, "addCurve", "(LTunnelRing;III[J)I"⟩
abbrev cL_needAt : ByteArray := method_5_code
def yL_needAt : MethodName := ⟨RL, "needAt", "(LTunnelRing;I[J)I"⟩
abbrev cL_weaknessAt : ByteArray := method_6_code
def yL_weaknessAt : MethodName := ⟨RL, "weaknessAt", "(LTunnelRing;I[J)I"⟩
abbrev cL_addHouse : ByteArray := method_7_code
def yL_addHouse : MethodName := ⟨RL, "addHouse", "(LTunnelRing;IIII[J)I"⟩
abbrev cL_cast : ByteArray := method_8_code
def yL_cast : MethodName := ⟨RL, "cast", "(LTunnelRing;II[J)I"⟩
abbrev cL_heightOf : ByteArray := method_9_code
def yL_heightOf : MethodName := ⟨RL, "heightOf", "(LTunnelRing;I[J)I"⟩
abbrev cL_taperAt : ByteArray := method_10_code
def yL_taperAt : MethodName := ⟨RL, "taperAt", "(LTunnelRing;II[J)I"⟩
abbrev cL_hoursToCure : ByteArray := method_11_code
def yL_hoursToCure : MethodName := ⟨RL, "hoursToCure", "(LTunnelRing;I[J)I"⟩
abbrev cL_restack : ByteArray := method_12_code
def yL_restack : MethodName := ⟨RL, "restack", "(LTunnelRing;II[J)I"⟩
abbrev cL_curedShare : ByteArray := method_13_code
def yL_curedShare : MethodName := ⟨RL, "curedShare", "(LTunnelRing;[D)I"⟩
abbrev cL_setPressure : ByteArray := method_14_code
def yL_setPressure : MethodName := ⟨RL, "setPressure", "(LTunnelRing;I[J)I"⟩
abbrev cL_addSlurry : ByteArray := method_15_code
def yL_addSlurry : MethodName := ⟨RL, "addSlurry", "(LTunnelRing;I[J)I"⟩
abbrev cL_slurryFor : ByteArray := method_16_code
def yL_slurryFor : MethodName := ⟨RL, "slurryFor", "(LTunnelRing;[J)I"⟩
abbrev cL_setTolerance : ByteArray := method_17_code
def yL_setTolerance : MethodName := ⟨RL, "setTolerance", "(LTunnelRing;I[J)I"⟩
abbrev cL_reasonFor : ByteArray := method_18_code
def yL_reasonFor : MethodName := ⟨RL, "reasonFor", "(LTunnelRing;II[J)I"⟩
abbrev cL_lay : ByteArray := method_19_code
def yL_lay : MethodName := ⟨RL, "lay", "(LTunnelRing;II[J)I"⟩
abbrev cL_stop : ByteArray := method_20_code
def yL_stop : MethodName := ⟨RL, "stop", "(LTunnelRing;I[J)I"⟩
abbrev cL_positionOf : ByteArray := method_21_code
def yL_positionOf : MethodName := ⟨RL, "positionOf", "(LTunnelRing;I[J)I"⟩
abbrev cL_taperOf : ByteArray := method_22_code
def yL_taperOf : MethodName := ⟨RL, "taperOf", "(LTunnelRing;I[J)I"⟩
abbrev cL_xAfter : ByteArray := method_23_code
def yL_xAfter : MethodName := ⟨RL, "xAfter", "(LTunnelRing;I[J)I"⟩
abbrev cL_yAfter : ByteArray := method_24_code
def yL_yAfter : MethodName := ⟨RL, "yAfter", "(LTunnelRing;I[J)I"⟩
abbrev cL_xAnew : ByteArray := method_25_code
def yL_xAnew : MethodName := ⟨RL, "xAnew", "(LTunnelRing;I[J)I"⟩
abbrev cL_yAnew : ByteArray := method_26_code
def yL_yAnew : MethodName := ⟨RL, "yAnew", "(LTunnelRing;I[J)I"⟩
abbrev cL_deviationAfter : ByteArray := method_27_code
def yL_deviationAfter : MethodName := ⟨RL, "deviationAfter", "(LTunnelRing;I[J)I"⟩
abbrev cL_deviationWith : ByteArray := method_28_code
def yL_deviationWith : MethodName := ⟨RL, "deviationWith", "(LTunnelRing;II[J)I"⟩
abbrev cL_bestPosition : ByteArray := method_29_code
def yL_bestPosition : MethodName := ⟨RL, "bestPosition", "(LTunnelRing;I[J)I"⟩
abbrev cL_leastDeviation : ByteArray := method_30_code
def yL_leastDeviation : MethodName := ⟨RL, "leastDeviation", "(LTunnelRing;II[J)I"⟩
abbrev cL_leastByTrying : ByteArray := method_31_code
def yL_leastByTrying : MethodName := ⟨RL, "leastByTrying", "(LTunnelRing;II[J)I"⟩
abbrev cL_sinkingAt : ByteArray := method_32_code
def yL_sinkingAt : MethodName := ⟨RL, "sinkingAt", "(LTunnelRing;I[J)I"⟩
abbrev cL_sinkingOf : ByteArray := method_33_code
def yL_sinkingOf : MethodName := ⟨RL, "sinkingOf", "(LTunnelRing;I[J)I"⟩
abbrev cL_tiltOf : ByteArray := method_34_code
def yL_tiltOf : MethodName := ⟨RL, "tiltOf", "(LTunnelRing;I[J)I"⟩
abbrev cL_claimOf : ByteArray := method_35_code
def yL_claimOf : MethodName := ⟨RL, "claimOf", "(LTunnelRing;I[J)I"⟩
abbrev cL_claim : ByteArray := method_36_code
def yL_claim : MethodName := ⟨RL, "claim", "(LTunnelRing;I[J)I"⟩
abbrev cL_paidTo : ByteArray := method_37_code
def yL_paidTo : MethodName := ⟨RL, "paidTo", "(LTunnelRing;I[J)I"⟩
abbrev cL_worstHouse : ByteArray := method_38_code
def yL_worstHouse : MethodName := ⟨RL, "worstHouse", "(LTunnelRing;[J)I"⟩
abbrev cL_meanSinking : ByteArray := method_39_code
def yL_meanSinking : MethodName := ⟨RL, "meanSinking", "(LTunnelRing;[D)I"⟩
abbrev cL_writeRings : ByteArray := method_40_code
def yL_writeRings : MethodName := ⟨RL, "writeRings", "(LTunnelRing;I[J)I"⟩
abbrev cL_lineAt : ByteArray := method_41_code
def yL_lineAt : MethodName := ⟨RL, "lineAt", "(LTunnelRing;I[J)I"⟩
abbrev cL_law : ByteArray := code
def yL_law : MethodName := ⟨RL, "law", "([I)Z"⟩
def wsX0_init : List Cond := .code yX0_init cX0_init 1 none :: ([.methodLink RX0 1 objectInit, .instanceMethod objectInit, .code objectInit ⟨#[0xb1]⟩ 1 none])
def wsX0_restart : List Cond := .code yX0_restart cX0_restart 1 none :: ([.fieldLink RX0 7 "TunnelRing$Course" "x" "I", .fieldLink RX0 13 "TunnelRing$Course" "y" "I", .fieldLink RX0 16 "TunnelRing$Course" "headingX" "I", .fieldLink RX0 19 "TunnelRing$Course" "headingY" "I"] ++ wsX00)
def wsX0_bend : List Cond := .code yX0_bend cX0_bend 3 none :: ([.fieldLink RX0 16 "TunnelRing$Course" "headingX" "I", .fieldLink RX0 19 "TunnelRing$Course" "headingY" "I", .fieldLink RX0 7 "TunnelRing$Course" "x" "I", .fieldLink RX0 13 "TunnelRing$Course" "y" "I"] ++ wsX00)
def wsX0_unbend : List Cond := .code yX0_unbend cX0_unbend 3 none :: ([.fieldLink RX0 7 "TunnelRing$Course" "x" "I", .fieldLink RX0 16 "TunnelRing$Course" "headingX" "I", .fieldLink RX0 13 "TunnelRing$Course" "y" "I", .fieldLink RX0 19 "TunnelRing$Course" "headingY" "I"] ++ wsX00)
def wsX0_addRing : List Cond := .code yX0_addRing cX0_addRing 3 none :: ([.methodLink RX0 31 yX0_bend, .instanceMethod yX0_bend, .selects RX0 yX0_bend yX0_bend, .initialized RX0, .code yX0_bend cX0_bend 3 none, .fieldLink RX0 16 "TunnelRing$Course" "headingX" "I", .fieldLink RX0 19 "TunnelRing$Course" "headingY" "I", .fieldLink RX0 7 "TunnelRing$Course" "x" "I", .fieldLink RX0 13 "TunnelRing$Course" "y" "I"] ++ wsX00 ++ (vx_atM "java/lang/ArrayIndexOutOfBoundsException" ["java/lang/IndexOutOfBoundsException", "java/lang/RuntimeException", "java/lang/Exception"]).filter goodWord)
def wsX1_init : List Cond := .code yX1_init cX1_init 1 none :: ([.methodLink RX1 3 objectInit, .instanceMethod objectInit, .code objectInit ⟨#[0xb1]⟩ 1 none, .arrayClass .int, .fieldLink RX1 9 "TunnelRing$Ground" "need" "[I", .fieldLink RX1 15 "TunnelRing$Ground" "weakness" "[I", .fieldLink RX1 18 "TunnelRing$Ground" "sinking" "[I"] ++ wsX10)
def wsX1_isKnown : List Cond := .code yX1_isKnown cX1_isKnown 2 (some .boolean) :: ([.fieldLink RX1 21 "TunnelRing$Ground" "known" "I"] ++ wsX10)
def wsX1_extend : List Cond := .code yX1_extend cX1_extend 6 none :: ([.fieldLink RX1 21 "TunnelRing$Ground" "known" "I", .methodLink RX1 25 Lib.Math.min.name, .static Lib.Math.min.name, .initialized "java/lang/Math", .code Lib.Math.min.name Lib.Math.min.code 2 (some .int), .fieldLink RX1 9 "TunnelRing$Ground" "need" "[I", .fieldLink RX1 15 "TunnelRing$Ground" "weakness" "[I"] ++ wsX10 ++ (vx_atM "java/lang/ArrayIndexOutOfBoundsException" ["java/lang/IndexOutOfBoundsException", "java/lang/RuntimeException", "java/lang/Exception"]).filter goodWord)
def wsX1_needOf : List Cond := .code yX1_needOf cX1_needOf 2 (some .int) :: ([.fieldLink RX1 9 "TunnelRing$Ground" "need" "[I", .methodLink RX1 31 yX1_isKnown, .instanceMethod yX1_isKnown, .selects RX1 yX1_isKnown yX1_isKnown, .initialized RX1, .code yX1_isKnown cX1_isKnown 2 (some .boolean), .fieldLink RX1 21 "TunnelRing$Ground" "known" "I"] ++ wsX10 ++ (vx_atM "java/lang/ArrayIndexOutOfBoundsException" ["java/lang/IndexOutOfBoundsException", "java/lang/RuntimeException", "java/lang/Exception"]).filter goodWord)
def wsX1_weaknessOf : List Cond := .code yX1_weaknessOf cX1_weaknessOf 2 (some .int) :: ([.fieldLink RX1 15 "TunnelRing$Ground" "weakness" "[I", .methodLink RX1 31 yX1_isKnown, .instanceMethod yX1_isKnown, .selects RX1 yX1_isKnown yX1_isKnown, .initialized RX1, .code yX1_isKnown cX1_isKnown 2 (some .boolean), .fieldLink RX1 21 "TunnelRing$Ground" "known" "I"] ++ wsX10 ++ (vx_atM "java/lang/ArrayIndexOutOfBoundsException" ["java/lang/IndexOutOfBoundsException", "java/lang/RuntimeException", "java/lang/Exception"]).filter goodWord)
def wsX1_sinkingOver : List Cond := .code yX1_sinkingOver cX1_sinkingOver 2 (some .int) :: ([.fieldLink RX1 18 "TunnelRing$Ground" "sinking" "[I", .methodLink RX1 31 yX1_isKnown, .instanceMethod yX1_isKnown, .selects RX1 yX1_isKnown yX1_isKnown, .initialized RX1, .code yX1_isKnown cX1_isKnown 2 (some .boolean), .fieldLink RX1 21 "TunnelRing$Ground" "known" "I"] ++ wsX10 ++ (vx_atM "java/lang/ArrayIndexOutOfBoundsException" ["java/lang/IndexOutOfBoundsException", "java/lang/RuntimeException", "java/lang/Exception"]).filter goodWord)
def wsX1_missing : List Cond := .code yX1_missing cX1_missing 3 (some .int) :: ([.methodLink RX1 39 Lib.Math.max.name, .static Lib.Math.max.name, .initialized "java/lang/Math", .code Lib.Math.max.name Lib.Math.max.code 2 (some .int), .methodLink RX1 35 yX1_needOf, .instanceMethod yX1_needOf, .selects RX1 yX1_needOf yX1_needOf, .initialized RX1, .code yX1_needOf cX1_needOf 2 (some .int), .fieldLink RX1 9 "TunnelRing$Ground" "need" "[I", .methodLink RX1 31 yX1_isKnown, .instanceMethod yX1_isKnown, .selects RX1 yX1_isKnown yX1_isKnown, .code yX1_isKnown cX1_isKnown 2 (some .boolean), .fieldLink RX1 21 "TunnelRing$Ground" "known" "I"] ++ wsX10 ++ (vx_atM "java/lang/ArrayIndexOutOfBoundsException" ["java/lang/IndexOutOfBoundsException", "java/lang/RuntimeException", "java/lang/Exception"]).filter goodWord)
def wsX1_sink : List Cond := .code yX1_sink cX1_sink 3 none :: ([.fieldLink RX1 18 "TunnelRing$Ground" "sinking" "[I", .methodLink RX1 31 yX1_isKnown, .instanceMethod yX1_isKnown, .selects RX1 yX1_isKnown yX1_isKnown, .initialized RX1, .code yX1_isKnown cX1_isKnown 2 (some .boolean), .fieldLink RX1 21 "TunnelRing$Ground" "known" "I"] ++ wsX10 ++ (vx_atM "java/lang/ArrayIndexOutOfBoundsException" ["java/lang/IndexOutOfBoundsException", "java/lang/RuntimeException", "java/lang/Exception"]).filter goodWord)
def wsX2_init : List Cond := .code yX2_init cX2_init 1 none :: ([.methodLink RX2 3 objectInit, .instanceMethod objectInit, .code objectInit ⟨#[0xb1]⟩ 1 none, .arrayClass .int, .fieldLink RX2 9 "TunnelRing$Houses" "first" "[I", .fieldLink RX2 15 "TunnelRing$Houses" "last" "[I", .fieldLink RX2 18 "TunnelRing$Houses" "limit" "[I", .fieldLink RX2 21 "TunnelRing$Houses" "rate" "[I", .fieldLink RX2 24 "TunnelRing$Houses" "paid" "[I"] ++ wsX20)
def wsX2_build : List Cond := .code yX2_build cX2_build 6 (some .int) :: ([.fieldLink RX2 27 "TunnelRing$Houses" "built" "I", .fieldLink RX2 9 "TunnelRing$Houses" "first" "[I", .fieldLink RX2 15 "TunnelRing$Houses" "last" "[I", .fieldLink RX2 18 "TunnelRing$Houses" "limit" "[I", .fieldLink RX2 21 "TunnelRing$Houses" "rate" "[I"] ++ wsX20 ++ (vx_atM "java/lang/ArrayIndexOutOfBoundsException" ["java/lang/IndexOutOfBoundsException", "java/lang/RuntimeException", "java/lang/Exception"]).filter goodWord)
def wsX3_init : List Cond := .code yX3_init cX3_init 1 none :: ([.methodLink RX3 3 objectInit, .instanceMethod objectInit, .code objectInit ⟨#[0xb1]⟩ 1 none, .arrayClass .int, .fieldLink RX3 9 "TunnelRing$Plan" "bendX" "[I", .fieldLink RX3 15 "TunnelRing$Plan" "bendY" "[I"] ++ wsX30)
def wsX3_extend : List Cond := .code yX3_extend cX3_extend 6 none :: ([.fieldLink RX3 18 "TunnelRing$Plan" "planned" "I", .methodLink RX3 22 Lib.Math.min.name, .static Lib.Math.min.name, .initialized "java/lang/Math", .code Lib.Math.min.name Lib.Math.min.code 2 (some .int), .fieldLink RX3 9 "TunnelRing$Plan" "bendX" "[I", .fieldLink RX3 15 "TunnelRing$Plan" "bendY" "[I"] ++ wsX30 ++ (vx_atM "java/lang/ArrayIndexOutOfBoundsException" ["java/lang/IndexOutOfBoundsException", "java/lang/RuntimeException", "java/lang/Exception"]).filter goodWord)
def wsX3_sideBend : List Cond := .code yX3_sideBend cX3_sideBend 2 (some .int) :: ([.fieldLink RX3 18 "TunnelRing$Plan" "planned" "I", .fieldLink RX3 9 "TunnelRing$Plan" "bendX" "[I"] ++ wsX30 ++ (vx_atM "java/lang/ArrayIndexOutOfBoundsException" ["java/lang/IndexOutOfBoundsException", "java/lang/RuntimeException", "java/lang/Exception"]).filter goodWord)
def wsX3_upBend : List Cond := .code yX3_upBend cX3_upBend 2 (some .int) :: ([.fieldLink RX3 18 "TunnelRing$Plan" "planned" "I", .fieldLink RX3 15 "TunnelRing$Plan" "bendY" "[I"] ++ wsX30 ++ (vx_atM "java/lang/ArrayIndexOutOfBoundsException" ["java/lang/IndexOutOfBoundsException", "java/lang/RuntimeException", "java/lang/Exception"]).filter goodWord)
def wsX4_init : List Cond := .code yX4_init cX4_init 1 none :: ([.methodLink RX4 3 objectInit, .instanceMethod objectInit, .code objectInit ⟨#[0xb1]⟩ 1 none, .classLink RX4 9 RX0, .instantiable RX0 4, .initialized RX0, .fieldLink RX4 12 "TunnelRing$Search" "gap" "LTunnelRing$Course;", .arrayClass .int, .fieldLink RX4 18 "TunnelRing$Search" "taper" "[I", .fieldLink RX4 22 "TunnelRing$Search" "bendX" "[I", .fieldLink RX4 25 "TunnelRing$Search" "bendY" "[I", .instanceMethod yX0_init, .code yX0_init cX0_init 1 none, .methodLink RX0 1 objectInit] ++ wsX00 ++ wsX40)
def wsX4_restart : List Cond := .code yX4_restart cX4_restart 3 none :: ([.fieldLink RX4 12 "TunnelRing$Search" "gap" "LTunnelRing$Course;", .fieldLink RX4 28 "TunnelRing$Course" "x" "I", .fieldLink RX4 32 "TunnelRing$Course" "y" "I", .fieldLink RX4 35 "TunnelRing$Course" "headingX" "I", .fieldLink RX4 38 "TunnelRing$Course" "headingY" "I", .fieldLink RX4 41 "TunnelRing$Search" "rings" "I", .constant RX4 44 (2147483647), .fieldLink RX4 45 "TunnelRing$Search" "least" "I"] ++ wsX40 ++ wsX00)
def wsX4_add : List Cond := .code yX4_add cX4_add 4 none :: ([.fieldLink RX4 41 "TunnelRing$Search" "rings" "I", .fieldLink RX4 18 "TunnelRing$Search" "taper" "[I", .fieldLink RX4 22 "TunnelRing$Search" "bendX" "[I", .fieldLink RX4 25 "TunnelRing$Search" "bendY" "[I"] ++ wsX40 ++ (vx_atM "java/lang/ArrayIndexOutOfBoundsException" ["java/lang/IndexOutOfBoundsException", "java/lang/RuntimeException", "java/lang/Exception"]).filter goodWord)
def wsX4_changeX : List Cond := .code yX4_changeX cX4_changeX 3 (some .int) :: ([.fieldLink RX4 18 "TunnelRing$Search" "taper" "[I", .fieldLink RX4 22 "TunnelRing$Search" "bendX" "[I"] ++ wsX40 ++ (vx_atM "java/lang/ArrayIndexOutOfBoundsException" ["java/lang/IndexOutOfBoundsException", "java/lang/RuntimeException", "java/lang/Exception"]).filter goodWord)
def wsX4_changeY : List Cond := .code yX4_changeY cX4_changeY 3 (some .int) :: ([.fieldLink RX4 18 "TunnelRing$Search" "taper" "[I", .fieldLink RX4 25 "TunnelRing$Search" "bendY" "[I"] ++ wsX40 ++ (vx_atM "java/lang/ArrayIndexOutOfBoundsException" ["java/lang/IndexOutOfBoundsException", "java/lang/RuntimeException", "java/lang/Exception"]).filter goodWord)
def wsX4_tryOut : List Cond := .code yX4_tryOut cX4_tryOut 3 none :: ([.fieldLink RX4 12 "TunnelRing$Search" "gap" "LTunnelRing$Course;", .methodLink RX4 48 yX4_changeX, .instanceMethod yX4_changeX, .selects RX4 yX4_changeX yX4_changeX, .initialized RX4, .code yX4_changeX cX4_changeX 3 (some .int), .fieldLink RX4 18 "TunnelRing$Search" "taper" "[I", .fieldLink RX4 22 "TunnelRing$Search" "bendX" "[I", .methodLink RX4 52 yX4_changeY, .instanceMethod yX4_changeY, .selects RX4 yX4_changeY yX4_changeY, .code yX4_changeY cX4_changeY 3 (some .int), .fieldLink RX4 25 "TunnelRing$Search" "bendY" "[I", .methodLink RX4 55 yX0_bend, .instanceMethod yX0_bend, .selects RX0 yX0_bend yX0_bend, .initialized RX0, .code yX0_bend cX0_bend 3 none, .fieldLink RX0 16 "TunnelRing$Course" "headingX" "I", .fieldLink RX0 19 "TunnelRing$Course" "headingY" "I", .fieldLink RX0 7 "TunnelRing$Course" "x" "I", .fieldLink RX0 13 "TunnelRing$Course" "y" "I"] ++ wsX40 ++ wsX00 ++ (vx_atM "java/lang/ArrayIndexOutOfBoundsException" ["java/lang/IndexOutOfBoundsException", "java/lang/RuntimeException", "java/lang/Exception"]).filter goodWord)
def wsX4_takeBack : List Cond := .code yX4_takeBack cX4_takeBack 3 none :: ([.fieldLink RX4 12 "TunnelRing$Search" "gap" "LTunnelRing$Course;", .methodLink RX4 48 yX4_changeX, .instanceMethod yX4_changeX, .selects RX4 yX4_changeX yX4_changeX, .initialized RX4, .code yX4_changeX cX4_changeX 3 (some .int), .fieldLink RX4 18 "TunnelRing$Search" "taper" "[I", .fieldLink RX4 22 "TunnelRing$Search" "bendX" "[I", .methodLink RX4 52 yX4_changeY, .instanceMethod yX4_changeY, .selects RX4 yX4_changeY yX4_changeY, .code yX4_changeY cX4_changeY 3 (some .int), .fieldLink RX4 25 "TunnelRing$Search" "bendY" "[I", .methodLink RX4 59 yX0_unbend, .instanceMethod yX0_unbend, .selects RX0 yX0_unbend yX0_unbend, .initialized RX0, .code yX0_unbend cX0_unbend 3 none, .fieldLink RX0 7 "TunnelRing$Course" "x" "I", .fieldLink RX0 16 "TunnelRing$Course" "headingX" "I", .fieldLink RX0 13 "TunnelRing$Course" "y" "I", .fieldLink RX0 19 "TunnelRing$Course" "headingY" "I"] ++ wsX40 ++ wsX00 ++ (vx_atM "java/lang/ArrayIndexOutOfBoundsException" ["java/lang/IndexOutOfBoundsException", "java/lang/RuntimeException", "java/lang/Exception"]).filter goodWord)
def wsX4_deviation : List Cond := .code yX4_deviation cX4_deviation 1 (some .int) :: ([.fieldLink RX4 12 "TunnelRing$Search" "gap" "LTunnelRing$Course;", .fieldLink RX4 28 "TunnelRing$Course" "x" "I", .methodLink RX4 68 Lib.Math.abs.name, .static Lib.Math.abs.name, .initialized "java/lang/Math", .code Lib.Math.abs.name Lib.Math.abs.code 1 (some .int), .fieldLink RX4 32 "TunnelRing$Course" "y" "I"] ++ wsX40 ++ wsX00)
def wsX4_deviationIn_r1 : List Cond := [Cond.methodLink RX4 74 yX4_tryOut, Cond.instanceMethod yX4_tryOut, Cond.selects RX4 yX4_tryOut yX4_tryOut, Cond.initialized RX4, Cond.code yX4_tryOut cX4_tryOut 3 none, Cond.fieldLink RX4 12 "TunnelRing$Search" "gap" "LTunnelRing$Course;", Cond.methodLink RX4 48 yX4_changeX, Cond.instanceMethod yX4_changeX, Cond.selects RX4 yX4_changeX yX4_changeX, Cond.code yX4_changeX cX4_changeX 3 (some .int), Cond.fieldLink RX4 18 "TunnelRing$Search" "taper" "[I", Cond.fieldLink RX4 22 "TunnelRing$Search" "bendX" "[I", Cond.methodLink RX4 52 yX4_changeY, Cond.instanceMethod yX4_changeY, Cond.selects RX4 yX4_changeY yX4_changeY, Cond.code yX4_changeY cX4_changeY 3 (some .int), Cond.fieldLink RX4 25 "TunnelRing$Search" "bendY" "[I", Cond.methodLink RX4 55 yX0_bend, Cond.instanceMethod yX0_bend, Cond.selects RX0 yX0_bend yX0_bend, Cond.initialized RX0, Cond.code yX0_bend cX0_bend 3 none, Cond.fieldLink RX0 16 "TunnelRing$Course" "headingX" "I", Cond.fieldLink RX0 19 "TunnelRing$Course" "headingY" "I"]
def wsX4_deviationIn_r2 : List Cond := [Cond.fieldLink RX0 7 "TunnelRing$Course" "x" "I", Cond.fieldLink RX0 13 "TunnelRing$Course" "y" "I", Cond.methodLink RX4 77 yX4_deviation, Cond.instanceMethod yX4_deviation, Cond.selects RX4 yX4_deviation yX4_deviation, Cond.code yX4_deviation cX4_deviation 1 (some .int), Cond.fieldLink RX4 28 "TunnelRing$Course" "x" "I", Cond.methodLink RX4 68 Lib.Math.abs.name, Cond.static Lib.Math.abs.name, Cond.initialized "java/lang/Math", Cond.code Lib.Math.abs.name Lib.Math.abs.code 1 (some .int), Cond.fieldLink RX4 32 "TunnelRing$Course" "y" "I", Cond.methodLink RX4 81 yX4_takeBack, Cond.instanceMethod yX4_takeBack, Cond.selects RX4 yX4_takeBack yX4_takeBack, Cond.code yX4_takeBack cX4_takeBack 3 none, Cond.methodLink RX4 59 yX0_unbend, Cond.instanceMethod yX0_unbend, Cond.selects RX0 yX0_unbend yX0_unbend, Cond.code yX0_unbend cX0_unbend 3 none]
def wsX4_deviationIn : List Cond := .code yX4_deviationIn cX4_deviationIn 3 (some .int) :: ((wsX4_deviationIn_r1 ++ wsX4_deviationIn_r2) ++ wsX40 ++ wsX00 ++ (vx_atM "java/lang/ArrayIndexOutOfBoundsException" ["java/lang/IndexOutOfBoundsException", "java/lang/RuntimeException", "java/lang/Exception"]).filter goodWord)
def wsX4_note : List Cond := .code yX4_note cX4_note 1 none :: ([.fieldLink RX4 45 "TunnelRing$Search" "least" "I", .methodLink RX4 84 Lib.Math.min.name, .static Lib.Math.min.name, .initialized "java/lang/Math", .code Lib.Math.min.name Lib.Math.min.code 2 (some .int), .methodLink RX4 77 yX4_deviation, .instanceMethod yX4_deviation, .selects RX4 yX4_deviation yX4_deviation, .initialized RX4, .code yX4_deviation cX4_deviation 1 (some .int), .fieldLink RX4 12 "TunnelRing$Search" "gap" "LTunnelRing$Course;", .fieldLink RX4 28 "TunnelRing$Course" "x" "I", .methodLink RX4 68 Lib.Math.abs.name, .static Lib.Math.abs.name, .code Lib.Math.abs.name Lib.Math.abs.code 1 (some .int), .fieldLink RX4 32 "TunnelRing$Course" "y" "I"] ++ wsX40 ++ wsX00)
def wsX4_atLeast : List Cond := .code yX4_atLeast cX4_atLeast 7 (some .int) :: ([.fieldLink RX4 12 "TunnelRing$Search" "gap" "LTunnelRing$Course;", .fieldLink RX4 28 "TunnelRing$Course" "x" "I", .fieldLink RX4 41 "TunnelRing$Search" "rings" "I", .fieldLink RX4 35 "TunnelRing$Course" "headingX" "I", .fieldLink RX4 32 "TunnelRing$Course" "y" "I", .fieldLink RX4 38 "TunnelRing$Course" "headingY" "I", .fieldLink RX4 22 "TunnelRing$Search" "bendX" "[I", .fieldLink RX4 25 "TunnelRing$Search" "bendY" "[I", .fieldLink RX4 18 "TunnelRing$Search" "taper" "[I", .methodLink RX4 68 Lib.Math.abs.name, .static Lib.Math.abs.name, .initialized "java/lang/Math", .code Lib.Math.abs.name Lib.Math.abs.code 1 (some .int), .methodLink RX4 87 Lib.Math.max.name, .static Lib.Math.max.name, .code Lib.Math.max.name Lib.Math.max.code 2 (some .int)] ++ wsX40 ++ wsX00 ++ (vx_atM "java/lang/ArrayIndexOutOfBoundsException" ["java/lang/IndexOutOfBoundsException", "java/lang/RuntimeException", "java/lang/Exception"]).filter goodWord)
def wsX5_init : List Cond := .code yX5_init cX5_init 1 none :: ([.methodLink RX5 3 objectInit, .instanceMethod objectInit, .code objectInit ⟨#[0xb1]⟩ 1 none, .arrayClass .char, .fieldLink RX5 9 "TunnelRing$Text" "sign" "[C"] ++ wsX50)
def wsX5_clear : List Cond := .code yX5_clear cX5_clear 1 none :: ([.fieldLink RX5 15 "TunnelRing$Text" "length" "I"] ++ wsX50)
def wsX5_put : List Cond := .code yX5_put cX5_put 2 none :: ([.fieldLink RX5 15 "TunnelRing$Text" "length" "I", .fieldLink RX5 9 "TunnelRing$Text" "sign" "[C"] ++ wsX50 ++ (vx_atM "java/lang/ArrayIndexOutOfBoundsException" ["java/lang/IndexOutOfBoundsException", "java/lang/RuntimeException", "java/lang/Exception"]).filter goodWord)
def wsX5_putDigit : List Cond := .code yX5_putDigit cX5_putDigit 2 none :: ([.methodLink RX5 19 yX5_put, .instanceMethod yX5_put, .selects RX5 yX5_put yX5_put, .initialized RX5, .code yX5_put cX5_put 2 none, .fieldLink RX5 15 "TunnelRing$Text" "length" "I", .fieldLink RX5 9 "TunnelRing$Text" "sign" "[C"] ++ wsX50 ++ (vx_atM "java/lang/ArrayIndexOutOfBoundsException" ["java/lang/IndexOutOfBoundsException", "java/lang/RuntimeException", "java/lang/Exception"]).filter goodWord)
def wsX6_init : List Cond := .code yX6_init cX6_init 1 none :: ([.methodLink RX6 3 objectInit, .instanceMethod objectInit, .code objectInit ⟨#[0xb1]⟩ 1 none, .arrayClass .int, .fieldLink RX6 9 "TunnelRing$Tube" "position" "[I", .fieldLink RX6 15 "TunnelRing$Tube" "taper" "[I", .fieldLink RX6 18 "TunnelRing$Tube" "keptX" "[I", .fieldLink RX6 21 "TunnelRing$Tube" "keptY" "[I", .classLink RX6 24 RX0, .instantiable RX0 4, .initialized RX0, .fieldLink RX6 27 "TunnelRing$Tube" "end" "LTunnelRing$Course;", .instanceMethod yX0_init, .code yX0_init cX0_init 1 none, .methodLink RX0 1 objectInit] ++ wsX60 ++ wsX00)
def wsX6_lastPosition : List Cond := .code yX6_lastPosition cX6_lastPosition 1 (some .int) :: ([.fieldLink RX6 31 "TunnelRing$Tube" "laid" "I", .fieldLink RX6 9 "TunnelRing$Tube" "position" "[I"] ++ wsX60 ++ (vx_atM "java/lang/ArrayIndexOutOfBoundsException" ["java/lang/IndexOutOfBoundsException", "java/lang/RuntimeException", "java/lang/Exception"]).filter goodWord)
def wsX6_append : List Cond := .code yX6_append cX6_append 3 none :: ([.fieldLink RX6 31 "TunnelRing$Tube" "laid" "I", .fieldLink RX6 27 "TunnelRing$Tube" "end" "LTunnelRing$Course;", .fieldLink RX6 9 "TunnelRing$Tube" "position" "[I", .fieldLink RX6 15 "TunnelRing$Tube" "taper" "[I", .fieldLink RX6 18 "TunnelRing$Tube" "keptX" "[I", .fieldLink RX6 39 "TunnelRing$Course" "x" "I", .fieldLink RX6 21 "TunnelRing$Tube" "keptY" "[I", .fieldLink RX6 42 "TunnelRing$Course" "y" "I", .methodLink RX6 35 yX0_addRing, .instanceMethod yX0_addRing, .selects RX0 yX0_addRing yX0_addRing, .initialized RX0, .code yX0_addRing cX0_addRing 3 none, .methodLink RX0 31 yX0_bend, .instanceMethod yX0_bend, .selects RX0 yX0_bend yX0_bend, .code yX0_bend cX0_bend 3 none, .fieldLink RX0 16 "TunnelRing$Course" "headingX" "I", .fieldLink RX0 19 "TunnelRing$Course" "headingY" "I", .fieldLink RX0 7 "TunnelRing$Course" "x" "I", .fieldLink RX0 13 "TunnelRing$Course" "y" "I"] ++ wsX60 ++ wsX00 ++ (vx_atM "java/lang/ArrayIndexOutOfBoundsException" ["java/lang/IndexOutOfBoundsException", "java/lang/RuntimeException", "java/lang/Exception"]).filter goodWord)
def wsX7_init : List Cond := .code yX7_init cX7_init 1 none :: ([.methodLink RX7 3 objectInit, .instanceMethod objectInit, .code objectInit ⟨#[0xb1]⟩ 1 none, .arrayClass .int, .fieldLink RX7 9 "TunnelRing$Yard" "height" "[I", .fieldLink RX7 15 "TunnelRing$Yard" "taper" "[I", .fieldLink RX7 18 "TunnelRing$Yard" "castAt" "[I"] ++ wsX70)
def wsX7_isFull : List Cond := .code yX7_isFull cX7_isFull 2 (some .boolean) :: ([.fieldLink RX7 9 "TunnelRing$Yard" "height" "[I"] ++ wsX70 ++ (vx_atM "java/lang/ArrayIndexOutOfBoundsException" ["java/lang/IndexOutOfBoundsException", "java/lang/RuntimeException", "java/lang/Exception"]).filter goodWord)
def wsX7_put : List Cond := .code yX7_put cX7_put 5 none :: ([.fieldLink RX7 9 "TunnelRing$Yard" "height" "[I", .fieldLink RX7 15 "TunnelRing$Yard" "taper" "[I", .fieldLink RX7 18 "TunnelRing$Yard" "castAt" "[I"] ++ wsX70 ++ (vx_atM "java/lang/ArrayIndexOutOfBoundsException" ["java/lang/IndexOutOfBoundsException", "java/lang/RuntimeException", "java/lang/Exception"]).filter goodWord)
def wsX7_taperIn : List Cond := .code yX7_taperIn cX7_taperIn 3 (some .int) :: ([.fieldLink RX7 15 "TunnelRing$Yard" "taper" "[I"] ++ wsX70 ++ (vx_atM "java/lang/ArrayIndexOutOfBoundsException" ["java/lang/IndexOutOfBoundsException", "java/lang/RuntimeException", "java/lang/Exception"]).filter goodWord)
def wsX7_topTaper : List Cond := .code yX7_topTaper cX7_topTaper 2 (some .int) :: ([.fieldLink RX7 9 "TunnelRing$Yard" "height" "[I", .methodLink RX7 21 yX7_taperIn, .instanceMethod yX7_taperIn, .selects RX7 yX7_taperIn yX7_taperIn, .initialized RX7, .code yX7_taperIn cX7_taperIn 3 (some .int), .fieldLink RX7 15 "TunnelRing$Yard" "taper" "[I"] ++ wsX70 ++ (vx_atM "java/lang/ArrayIndexOutOfBoundsException" ["java/lang/IndexOutOfBoundsException", "java/lang/RuntimeException", "java/lang/Exception"]).filter goodWord)
def wsX7_takeTop : List Cond := .code yX7_takeTop cX7_takeTop 2 none :: ([.fieldLink RX7 9 "TunnelRing$Yard" "height" "[I"] ++ wsX70 ++ (vx_atM "java/lang/ArrayIndexOutOfBoundsException" ["java/lang/IndexOutOfBoundsException", "java/lang/RuntimeException", "java/lang/Exception"]).filter goodWord)
def wsX7_move : List Cond := .code yX7_move cX7_move 4 none :: ([.fieldLink RX7 9 "TunnelRing$Yard" "height" "[I", .fieldLink RX7 15 "TunnelRing$Yard" "taper" "[I", .fieldLink RX7 18 "TunnelRing$Yard" "castAt" "[I", .methodLink RX7 25 yX7_takeTop, .instanceMethod yX7_takeTop, .selects RX7 yX7_takeTop yX7_takeTop, .initialized RX7, .code yX7_takeTop cX7_takeTop 2 none, .methodLink RX7 29 yX7_put, .instanceMethod yX7_put, .selects RX7 yX7_put yX7_put, .code yX7_put cX7_put 5 none] ++ wsX70 ++ (vx_atM "java/lang/ArrayIndexOutOfBoundsException" ["java/lang/IndexOutOfBoundsException", "java/lang/RuntimeException", "java/lang/Exception"]).filter goodWord)
def wsX7_hoursLeft : List Cond := .code yX7_hoursLeft cX7_hoursLeft 4 (some .int) :: ([.fieldLink RX7 18 "TunnelRing$Yard" "castAt" "[I", .methodLink RX7 33 Lib.Math.max.name, .static Lib.Math.max.name, .initialized "java/lang/Math", .code Lib.Math.max.name Lib.Math.max.code 2 (some .int)] ++ wsX70 ++ (vx_atM "java/lang/ArrayIndexOutOfBoundsException" ["java/lang/IndexOutOfBoundsException", "java/lang/RuntimeException", "java/lang/Exception"]).filter goodWord)
def wsX7_countRings : List Cond := .code yX7_countRings cX7_countRings 3 (some .int) :: ([.fieldLink RX7 9 "TunnelRing$Yard" "height" "[I"] ++ wsX70 ++ (vx_atM "java/lang/ArrayIndexOutOfBoundsException" ["java/lang/IndexOutOfBoundsException", "java/lang/RuntimeException", "java/lang/Exception"]).filter goodWord)
def wsX7_countCured : List Cond := .code yX7_countCured cX7_countCured 5 (some .int) :: ([.fieldLink RX7 9 "TunnelRing$Yard" "height" "[I", .methodLink RX7 38 yX7_hoursLeft, .instanceMethod yX7_hoursLeft, .selects RX7 yX7_hoursLeft yX7_hoursLeft, .initialized RX7, .code yX7_hoursLeft cX7_hoursLeft 4 (some .int), .fieldLink RX7 18 "TunnelRing$Yard" "castAt" "[I", .methodLink RX7 33 Lib.Math.max.name, .static Lib.Math.max.name, .initialized "java/lang/Math", .code Lib.Math.max.name Lib.Math.max.code 2 (some .int)] ++ wsX70 ++ (vx_atM "java/lang/ArrayIndexOutOfBoundsException" ["java/lang/IndexOutOfBoundsException", "java/lang/RuntimeException", "java/lang/Exception"]).filter goodWord)
def wsX8_init_r1 : List Cond := [Cond.methodLink RX8 1 objectInit, Cond.instanceMethod objectInit, Cond.code objectInit ⟨#[0xb1]⟩ 1 none, Cond.classLink RX8 7 RX1, Cond.instantiable RX1 4, Cond.initialized RX1, Cond.fieldLink RX8 10 "TunnelRing" "ground" "LTunnelRing$Ground;", Cond.classLink RX8 16 RX3, Cond.instantiable RX3 3, Cond.initialized RX3, Cond.fieldLink RX8 19 "TunnelRing" "plan" "LTunnelRing$Plan;", Cond.classLink RX8 23 RX2, Cond.instantiable RX2 6, Cond.initialized RX2, Cond.fieldLink RX8 26 "TunnelRing" "houses" "LTunnelRing$Houses;", Cond.classLink RX8 30 RX7, Cond.instantiable RX7 3, Cond.initialized RX7, Cond.fieldLink RX8 33 "TunnelRing" "yard" "LTunnelRing$Yard;", Cond.classLink RX8 37 RX6, Cond.instantiable RX6 6, Cond.initialized RX6, Cond.fieldLink RX8 40 "TunnelRing" "tube" "LTunnelRing$Tube;", Cond.classLink RX8 44 RX4]
def wsX8_init_r2 : List Cond := [Cond.instantiable RX4 6, Cond.initialized RX4, Cond.fieldLink RX8 47 "TunnelRing" "search" "LTunnelRing$Search;", Cond.classLink RX8 51 RX0, Cond.instantiable RX0 4, Cond.initialized RX0, Cond.fieldLink RX8 54 "TunnelRing" "followed" "LTunnelRing$Course;", Cond.classLink RX8 58 RX5, Cond.instantiable RX5 2, Cond.initialized RX5, Cond.fieldLink RX8 61 "TunnelRing" "text" "LTunnelRing$Text;", Cond.fieldLink RX8 65 "TunnelRing" "pressure" "I", Cond.fieldLink RX8 69 "TunnelRing" "tank" "I", Cond.fieldLink RX8 72 "TunnelRing" "tolerance" "I", Cond.fieldLink RX8 75 "TunnelRing" "hour" "I", Cond.instanceMethod yX1_init, Cond.code yX1_init cX1_init 1 none, Cond.methodLink RX1 3 objectInit, Cond.arrayClass .int, Cond.fieldLink RX1 9 "TunnelRing$Ground" "need" "[I", Cond.fieldLink RX1 15 "TunnelRing$Ground" "weakness" "[I", Cond.fieldLink RX1 18 "TunnelRing$Ground" "sinking" "[I", Cond.instanceMethod yX3_init, Cond.code yX3_init cX3_init 1 none]
def wsX8_init_r3 : List Cond := [Cond.methodLink RX3 3 objectInit, Cond.fieldLink RX3 9 "TunnelRing$Plan" "bendX" "[I", Cond.fieldLink RX3 15 "TunnelRing$Plan" "bendY" "[I", Cond.instanceMethod yX2_init, Cond.code yX2_init cX2_init 1 none, Cond.methodLink RX2 3 objectInit, Cond.fieldLink RX2 9 "TunnelRing$Houses" "first" "[I", Cond.fieldLink RX2 15 "TunnelRing$Houses" "last" "[I", Cond.fieldLink RX2 18 "TunnelRing$Houses" "limit" "[I", Cond.fieldLink RX2 21 "TunnelRing$Houses" "rate" "[I", Cond.fieldLink RX2 24 "TunnelRing$Houses" "paid" "[I", Cond.instanceMethod yX7_init, Cond.code yX7_init cX7_init 1 none, Cond.methodLink RX7 3 objectInit, Cond.fieldLink RX7 9 "TunnelRing$Yard" "height" "[I", Cond.fieldLink RX7 15 "TunnelRing$Yard" "taper" "[I", Cond.fieldLink RX7 18 "TunnelRing$Yard" "castAt" "[I", Cond.instanceMethod yX6_init, Cond.code yX6_init cX6_init 1 none, Cond.methodLink RX6 3 objectInit, Cond.fieldLink RX6 9 "TunnelRing$Tube" "position" "[I", Cond.fieldLink RX6 15 "TunnelRing$Tube" "taper" "[I", Cond.fieldLink RX6 18 "TunnelRing$Tube" "keptX" "[I", Cond.fieldLink RX6 21 "TunnelRing$Tube" "keptY" "[I"]
def wsX8_init_r4 : List Cond := [Cond.classLink RX6 24 RX0, Cond.fieldLink RX6 27 "TunnelRing$Tube" "end" "LTunnelRing$Course;", Cond.instanceMethod yX0_init, Cond.code yX0_init cX0_init 1 none, Cond.methodLink RX0 1 objectInit, Cond.instanceMethod yX4_init, Cond.code yX4_init cX4_init 1 none, Cond.methodLink RX4 3 objectInit, Cond.classLink RX4 9 RX0, Cond.fieldLink RX4 12 "TunnelRing$Search" "gap" "LTunnelRing$Course;", Cond.fieldLink RX4 18 "TunnelRing$Search" "taper" "[I", Cond.fieldLink RX4 22 "TunnelRing$Search" "bendX" "[I", Cond.fieldLink RX4 25 "TunnelRing$Search" "bendY" "[I", Cond.instanceMethod yX5_init, Cond.code yX5_init cX5_init 1 none, Cond.methodLink RX5 3 objectInit, Cond.arrayClass .char, Cond.fieldLink RX5 9 "TunnelRing$Text" "sign" "[C"]
def wsX8_init : List Cond := .code yX8_init cX8_init 1 none :: ((wsX8_init_r1 ++ (wsX8_init_r2 ++ (wsX8_init_r3 ++ wsX8_init_r4))) ++ wsX10 ++ wsX80 ++ wsX30 ++ wsX20 ++ wsX70 ++ wsX60 ++ wsX40 ++ wsX00 ++ wsX50)
def wsX8_checkRange : List Cond := .code yX8_checkRange cX8_checkRange 3 none :: ([.classLink RX8 112 "java/lang/IllegalArgumentException", .initialized "java/lang/IllegalArgumentException"] ++ (vx_atS RX8 116 "java/lang/IllegalArgumentException" ["java/lang/RuntimeException", "java/lang/Exception"]).filter goodWord)
def wsX8_addGround : List Cond := .code yX8_addGround cX8_addGround 4 (some .int) :: ([.classLink RX8 85 "java/lang/IllegalStateException", .initialized "java/lang/IllegalStateException", .fieldLink RX8 10 "TunnelRing" "ground" "LTunnelRing$Ground;", .fieldLink RX8 82 "TunnelRing$Ground" "known" "I", .methodLink RX8 78 yX8_checkRange, .static yX8_checkRange, .initialized RX8, .code yX8_checkRange cX8_checkRange 3 none, .classLink RX8 112 "java/lang/IllegalArgumentException", .initialized "java/lang/IllegalArgumentException", .methodLink RX8 92 yX1_extend, .instanceMethod yX1_extend, .selects RX1 yX1_extend yX1_extend, .initialized RX1, .code yX1_extend cX1_extend 6 none, .fieldLink RX1 21 "TunnelRing$Ground" "known" "I", .methodLink RX1 25 Lib.Math.min.name, .static Lib.Math.min.name, .initialized "java/lang/Math", .code Lib.Math.min.name Lib.Math.min.code 2 (some .int), .fieldLink RX1 9 "TunnelRing$Ground" "need" "[I", .fieldLink RX1 15 "TunnelRing$Ground" "weakness" "[I"] ++ wsX80 ++ wsX10 ++ (vx_atS RX8 89 "java/lang/IllegalStateException" ["java/lang/RuntimeException", "java/lang/Exception"]).filter goodWord ++ (vx_atS RX8 116 "java/lang/IllegalArgumentException" ["java/lang/RuntimeException", "java/lang/Exception"]).filter goodWord ++ (vx_atM "java/lang/ArrayIndexOutOfBoundsException" ["java/lang/IndexOutOfBoundsException", "java/lang/RuntimeException", "java/lang/Exception"]).filter goodWord)
def wsX8_addCurve : List Cond := .code yX8_addCurve cX8_addCurve 4 (some .int) :: ([.classLink RX8 85 "java/lang/IllegalStateException", .initialized "java/lang/IllegalStateException", .fieldLink RX8 19 "TunnelRing" "plan" "LTunnelRing$Plan;", .fieldLink RX8 95 "TunnelRing$Plan" "planned" "I", .methodLink RX8 78 yX8_checkRange, .static yX8_checkRange, .initialized RX8, .code yX8_checkRange cX8_checkRange 3 none, .classLink RX8 112 "java/lang/IllegalArgumentException", .initialized "java/lang/IllegalArgumentException", .methodLink RX8 100 yX3_extend, .instanceMethod yX3_extend, .selects RX3 yX3_extend yX3_extend, .initialized RX3, .code yX3_extend cX3_extend 6 none, .fieldLink RX3 18 "TunnelRing$Plan" "planned" "I", .methodLink RX3 22 Lib.Math.min.name, .static Lib.Math.min.name, .initialized "java/lang/Math", .code Lib.Math.min.name Lib.Math.min.code 2 (some .int), .fieldLink RX3 9 "TunnelRing$Plan" "bendX" "[I", .fieldLink RX3 15 "TunnelRing$Plan" "bendY" "[I"] ++ wsX80 ++ wsX30 ++ (vx_atS RX8 89 "java/lang/IllegalStateException" ["java/lang/RuntimeException", "java/lang/Exception"]).filter goodWord ++ (vx_atS RX8 116 "java/lang/IllegalArgumentException" ["java/lang/RuntimeException", "java/lang/Exception"]).filter goodWord ++ (vx_atM "java/lang/ArrayIndexOutOfBoundsException" ["java/lang/IndexOutOfBoundsException", "java/lang/RuntimeException", "java/lang/Exception"]).filter goodWord)
def wsX8_checkGround : List Cond := .code yX8_checkGround cX8_checkGround 2 none :: ([.classLink RX8 322 "java/lang/IndexOutOfBoundsException", .initialized "java/lang/IndexOutOfBoundsException", .fieldLink RX8 10 "TunnelRing" "ground" "LTunnelRing$Ground;", .methodLink RX8 181 yX1_isKnown, .instanceMethod yX1_isKnown, .selects RX1 yX1_isKnown yX1_isKnown, .initialized RX1, .code yX1_isKnown cX1_isKnown 2 (some .boolean), .fieldLink RX1 21 "TunnelRing$Ground" "known" "I"] ++ wsX80 ++ wsX10 ++ (vx_atS RX8 326 "java/lang/IndexOutOfBoundsException" ["java/lang/RuntimeException", "java/lang/Exception"]).filter goodWord)
def wsX8_needAt : List Cond := .code yX8_needAt cX8_needAt 2 (some .int) :: ([.fieldLink RX8 10 "TunnelRing" "ground" "LTunnelRing$Ground;", .methodLink RX8 101 yX8_checkGround, .instanceMethod yX8_checkGround, .selects RX8 yX8_checkGround yX8_checkGround, .initialized RX8, .code yX8_checkGround cX8_checkGround 2 none, .classLink RX8 322 "java/lang/IndexOutOfBoundsException", .initialized "java/lang/IndexOutOfBoundsException", .methodLink RX8 181 yX1_isKnown, .instanceMethod yX1_isKnown, .selects RX1 yX1_isKnown yX1_isKnown, .initialized RX1, .code yX1_isKnown cX1_isKnown 2 (some .boolean), .fieldLink RX1 21 "TunnelRing$Ground" "known" "I", .methodLink RX8 105 yX1_needOf, .instanceMethod yX1_needOf, .selects RX1 yX1_needOf yX1_needOf, .code yX1_needOf cX1_needOf 2 (some .int), .fieldLink RX1 9 "TunnelRing$Ground" "need" "[I", .methodLink RX1 31 yX1_isKnown] ++ wsX80 ++ wsX10 ++ (vx_atS RX8 326 "java/lang/IndexOutOfBoundsException" ["java/lang/RuntimeException", "java/lang/Exception"]).filter goodWord ++ (vx_atM "java/lang/ArrayIndexOutOfBoundsException" ["java/lang/IndexOutOfBoundsException", "java/lang/RuntimeException", "java/lang/Exception"]).filter goodWord)
def wsX8_weaknessAt : List Cond := .code yX8_weaknessAt cX8_weaknessAt 2 (some .int) :: ([.fieldLink RX8 10 "TunnelRing" "ground" "LTunnelRing$Ground;", .methodLink RX8 101 yX8_checkGround, .instanceMethod yX8_checkGround, .selects RX8 yX8_checkGround yX8_checkGround, .initialized RX8, .code yX8_checkGround cX8_checkGround 2 none, .classLink RX8 322 "java/lang/IndexOutOfBoundsException", .initialized "java/lang/IndexOutOfBoundsException", .methodLink RX8 181 yX1_isKnown, .instanceMethod yX1_isKnown, .selects RX1 yX1_isKnown yX1_isKnown, .initialized RX1, .code yX1_isKnown cX1_isKnown 2 (some .boolean), .fieldLink RX1 21 "TunnelRing$Ground" "known" "I", .methodLink RX8 109 yX1_weaknessOf, .instanceMethod yX1_weaknessOf, .selects RX1 yX1_weaknessOf yX1_weaknessOf, .code yX1_weaknessOf cX1_weaknessOf 2 (some .int), .fieldLink RX1 15 "TunnelRing$Ground" "weakness" "[I", .methodLink RX1 31 yX1_isKnown] ++ wsX80 ++ wsX10 ++ (vx_atS RX8 326 "java/lang/IndexOutOfBoundsException" ["java/lang/RuntimeException", "java/lang/Exception"]).filter goodWord ++ (vx_atM "java/lang/ArrayIndexOutOfBoundsException" ["java/lang/IndexOutOfBoundsException", "java/lang/RuntimeException", "java/lang/Exception"]).filter goodWord)
def wsX8_addHouse_r1 : List Cond := [Cond.classLink RX8 112 "java/lang/IllegalArgumentException", Cond.initialized "java/lang/IllegalArgumentException", Cond.classLink RX8 85 "java/lang/IllegalStateException", Cond.initialized "java/lang/IllegalStateException", Cond.fieldLink RX8 26 "TunnelRing" "houses" "LTunnelRing$Houses;", Cond.fieldLink RX8 117 "TunnelRing$Houses" "built" "I", Cond.methodLink RX8 101 yX8_checkGround, Cond.instanceMethod yX8_checkGround, Cond.selects RX8 yX8_checkGround yX8_checkGround, Cond.initialized RX8, Cond.code yX8_checkGround cX8_checkGround 2 none, Cond.classLink RX8 322 "java/lang/IndexOutOfBoundsException", Cond.initialized "java/lang/IndexOutOfBoundsException", Cond.fieldLink RX8 10 "TunnelRing" "ground" "LTunnelRing$Ground;", Cond.methodLink RX8 181 yX1_isKnown, Cond.instanceMethod yX1_isKnown, Cond.selects RX1 yX1_isKnown yX1_isKnown, Cond.initialized RX1, Cond.code yX1_isKnown cX1_isKnown 2 (some .boolean), Cond.fieldLink RX1 21 "TunnelRing$Ground" "known" "I", Cond.methodLink RX8 78 yX8_checkRange, Cond.static yX8_checkRange, Cond.code yX8_checkRange cX8_checkRange 3 none, Cond.methodLink RX8 122 yX2_build]
def wsX8_addHouse_r2 : List Cond := [Cond.instanceMethod yX2_build, Cond.selects RX2 yX2_build yX2_build, Cond.initialized RX2, Cond.code yX2_build cX2_build 6 (some .int), Cond.fieldLink RX2 27 "TunnelRing$Houses" "built" "I", Cond.fieldLink RX2 9 "TunnelRing$Houses" "first" "[I", Cond.fieldLink RX2 15 "TunnelRing$Houses" "last" "[I", Cond.fieldLink RX2 18 "TunnelRing$Houses" "limit" "[I", Cond.fieldLink RX2 21 "TunnelRing$Houses" "rate" "[I"]
def wsX8_addHouse : List Cond := .code yX8_addHouse cX8_addHouse 5 (some .int) :: ((wsX8_addHouse_r1 ++ wsX8_addHouse_r2) ++ wsX80 ++ wsX20 ++ wsX10 ++ (vx_atS RX8 116 "java/lang/IllegalArgumentException" ["java/lang/RuntimeException", "java/lang/Exception"]).filter goodWord ++ (vx_atS RX8 89 "java/lang/IllegalStateException" ["java/lang/RuntimeException", "java/lang/Exception"]).filter goodWord ++ (vx_atS RX8 326 "java/lang/IndexOutOfBoundsException" ["java/lang/RuntimeException", "java/lang/Exception"]).filter goodWord ++ (vx_atM "java/lang/ArrayIndexOutOfBoundsException" ["java/lang/IndexOutOfBoundsException", "java/lang/RuntimeException", "java/lang/Exception"]).filter goodWord)
def wsX8_checkStack : List Cond := .code yX8_checkStack cX8_checkStack 1 none :: ([.classLink RX8 322 "java/lang/IndexOutOfBoundsException", .initialized "java/lang/IndexOutOfBoundsException"] ++ (vx_atS RX8 326 "java/lang/IndexOutOfBoundsException" ["java/lang/RuntimeException", "java/lang/Exception"]).filter goodWord)
def wsX8_cast_r1 : List Cond := [Cond.classLink RX8 85 "java/lang/IllegalStateException", Cond.initialized "java/lang/IllegalStateException", Cond.fieldLink RX8 33 "TunnelRing" "yard" "LTunnelRing$Yard;", Cond.fieldLink RX8 75 "TunnelRing" "hour" "I", Cond.fieldLink RX8 138 "TunnelRing$Yard" "height" "[I", Cond.methodLink RX8 126 yX8_checkStack, Cond.static yX8_checkStack, Cond.initialized RX8, Cond.code yX8_checkStack cX8_checkStack 1 none, Cond.classLink RX8 322 "java/lang/IndexOutOfBoundsException", Cond.initialized "java/lang/IndexOutOfBoundsException", Cond.methodLink RX8 78 yX8_checkRange, Cond.static yX8_checkRange, Cond.code yX8_checkRange cX8_checkRange 3 none, Cond.classLink RX8 112 "java/lang/IllegalArgumentException", Cond.initialized "java/lang/IllegalArgumentException", Cond.methodLink RX8 129 yX7_isFull, Cond.instanceMethod yX7_isFull, Cond.selects RX7 yX7_isFull yX7_isFull, Cond.initialized RX7, Cond.code yX7_isFull cX7_isFull 2 (some .boolean), Cond.fieldLink RX7 9 "TunnelRing$Yard" "height" "[I", Cond.methodLink RX8 135 yX7_put, Cond.instanceMethod yX7_put]
def wsX8_cast_r2 : List Cond := [Cond.selects RX7 yX7_put yX7_put, Cond.code yX7_put cX7_put 5 none, Cond.fieldLink RX7 15 "TunnelRing$Yard" "taper" "[I", Cond.fieldLink RX7 18 "TunnelRing$Yard" "castAt" "[I"]
def wsX8_cast : List Cond := .code yX8_cast cX8_cast 3 (some .int) :: ((wsX8_cast_r1 ++ wsX8_cast_r2) ++ wsX80 ++ wsX70 ++ (vx_atS RX8 89 "java/lang/IllegalStateException" ["java/lang/RuntimeException", "java/lang/Exception"]).filter goodWord ++ (vx_atM "java/lang/ArrayIndexOutOfBoundsException" ["java/lang/IndexOutOfBoundsException", "java/lang/RuntimeException", "java/lang/Exception"]).filter goodWord ++ (vx_atS RX8 326 "java/lang/IndexOutOfBoundsException" ["java/lang/RuntimeException", "java/lang/Exception"]).filter goodWord ++ (vx_atS RX8 116 "java/lang/IllegalArgumentException" ["java/lang/RuntimeException", "java/lang/Exception"]).filter goodWord)
def wsX8_heightOf : List Cond := .code yX8_heightOf cX8_heightOf 2 (some .int) :: ([.fieldLink RX8 33 "TunnelRing" "yard" "LTunnelRing$Yard;", .fieldLink RX8 138 "TunnelRing$Yard" "height" "[I", .methodLink RX8 126 yX8_checkStack, .static yX8_checkStack, .initialized RX8, .code yX8_checkStack cX8_checkStack 1 none, .classLink RX8 322 "java/lang/IndexOutOfBoundsException", .initialized "java/lang/IndexOutOfBoundsException"] ++ wsX80 ++ wsX70 ++ (vx_atM "java/lang/ArrayIndexOutOfBoundsException" ["java/lang/IndexOutOfBoundsException", "java/lang/RuntimeException", "java/lang/Exception"]).filter goodWord ++ (vx_atS RX8 326 "java/lang/IndexOutOfBoundsException" ["java/lang/RuntimeException", "java/lang/Exception"]).filter goodWord)
def wsX8_taperAt : List Cond := .code yX8_taperAt cX8_taperAt 3 (some .int) :: ([.classLink RX8 142 "java/util/NoSuchElementException", .initialized "java/util/NoSuchElementException", .fieldLink RX8 33 "TunnelRing" "yard" "LTunnelRing$Yard;", .fieldLink RX8 138 "TunnelRing$Yard" "height" "[I", .methodLink RX8 126 yX8_checkStack, .static yX8_checkStack, .initialized RX8, .code yX8_checkStack cX8_checkStack 1 none, .classLink RX8 322 "java/lang/IndexOutOfBoundsException", .initialized "java/lang/IndexOutOfBoundsException", .methodLink RX8 147 yX7_taperIn, .instanceMethod yX7_taperIn, .selects RX7 yX7_taperIn yX7_taperIn, .initialized RX7, .code yX7_taperIn cX7_taperIn 3 (some .int), .fieldLink RX7 15 "TunnelRing$Yard" "taper" "[I"] ++ wsX80 ++ wsX70 ++ (vx_atM "java/lang/ArrayIndexOutOfBoundsException" ["java/lang/IndexOutOfBoundsException", "java/lang/RuntimeException", "java/lang/Exception"]).filter goodWord ++ (vx_atS RX8 146 "java/util/NoSuchElementException" ["java/lang/RuntimeException", "java/lang/Exception"]).filter goodWord ++ (vx_atS RX8 326 "java/lang/IndexOutOfBoundsException" ["java/lang/RuntimeException", "java/lang/Exception"]).filter goodWord)
def wsX8_checkRings : List Cond := .code yX8_checkRings cX8_checkRings 3 none :: ([.classLink RX8 142 "java/util/NoSuchElementException", .initialized "java/util/NoSuchElementException", .fieldLink RX8 33 "TunnelRing" "yard" "LTunnelRing$Yard;", .fieldLink RX8 138 "TunnelRing$Yard" "height" "[I"] ++ wsX80 ++ wsX70 ++ (vx_atM "java/lang/ArrayIndexOutOfBoundsException" ["java/lang/IndexOutOfBoundsException", "java/lang/RuntimeException", "java/lang/Exception"]).filter goodWord ++ (vx_atS RX8 146 "java/util/NoSuchElementException" ["java/lang/RuntimeException", "java/lang/Exception"]).filter goodWord)
def wsX8_hoursToCure_r1 : List Cond := [Cond.fieldLink RX8 33 "TunnelRing" "yard" "LTunnelRing$Yard;", Cond.fieldLink RX8 138 "TunnelRing$Yard" "height" "[I", Cond.fieldLink RX8 75 "TunnelRing" "hour" "I", Cond.methodLink RX8 126 yX8_checkStack, Cond.static yX8_checkStack, Cond.initialized RX8, Cond.code yX8_checkStack cX8_checkStack 1 none, Cond.classLink RX8 322 "java/lang/IndexOutOfBoundsException", Cond.initialized "java/lang/IndexOutOfBoundsException", Cond.methodLink RX8 151 yX8_checkRings, Cond.instanceMethod yX8_checkRings, Cond.selects RX8 yX8_checkRings yX8_checkRings, Cond.code yX8_checkRings cX8_checkRings 3 none, Cond.classLink RX8 142 "java/util/NoSuchElementException", Cond.initialized "java/util/NoSuchElementException", Cond.methodLink RX8 155 yX7_hoursLeft, Cond.instanceMethod yX7_hoursLeft, Cond.selects RX7 yX7_hoursLeft yX7_hoursLeft, Cond.initialized RX7, Cond.code yX7_hoursLeft cX7_hoursLeft 4 (some .int), Cond.fieldLink RX7 18 "TunnelRing$Yard" "castAt" "[I", Cond.methodLink RX7 33 Lib.Math.max.name, Cond.static Lib.Math.max.name, Cond.initialized "java/lang/Math"]
def wsX8_hoursToCure_r2 : List Cond := [Cond.code Lib.Math.max.name Lib.Math.max.code 2 (some .int)]
def wsX8_hoursToCure : List Cond := .code yX8_hoursToCure cX8_hoursToCure 2 (some .int) :: ((wsX8_hoursToCure_r1 ++ wsX8_hoursToCure_r2) ++ wsX80 ++ wsX70 ++ (vx_atM "java/lang/ArrayIndexOutOfBoundsException" ["java/lang/IndexOutOfBoundsException", "java/lang/RuntimeException", "java/lang/Exception"]).filter goodWord ++ (vx_atS RX8 326 "java/lang/IndexOutOfBoundsException" ["java/lang/RuntimeException", "java/lang/Exception"]).filter goodWord ++ (vx_atS RX8 146 "java/util/NoSuchElementException" ["java/lang/RuntimeException", "java/lang/Exception"]).filter goodWord)
def wsX8_restack_r1 : List Cond := [Cond.classLink RX8 85 "java/lang/IllegalStateException", Cond.initialized "java/lang/IllegalStateException", Cond.fieldLink RX8 33 "TunnelRing" "yard" "LTunnelRing$Yard;", Cond.fieldLink RX8 138 "TunnelRing$Yard" "height" "[I", Cond.methodLink RX8 126 yX8_checkStack, Cond.static yX8_checkStack, Cond.initialized RX8, Cond.code yX8_checkStack cX8_checkStack 1 none, Cond.classLink RX8 322 "java/lang/IndexOutOfBoundsException", Cond.initialized "java/lang/IndexOutOfBoundsException", Cond.methodLink RX8 151 yX8_checkRings, Cond.instanceMethod yX8_checkRings, Cond.selects RX8 yX8_checkRings yX8_checkRings, Cond.code yX8_checkRings cX8_checkRings 3 none, Cond.classLink RX8 142 "java/util/NoSuchElementException", Cond.initialized "java/util/NoSuchElementException", Cond.methodLink RX8 129 yX7_isFull, Cond.instanceMethod yX7_isFull, Cond.selects RX7 yX7_isFull yX7_isFull, Cond.initialized RX7, Cond.code yX7_isFull cX7_isFull 2 (some .boolean), Cond.fieldLink RX7 9 "TunnelRing$Yard" "height" "[I", Cond.methodLink RX8 161 yX7_move, Cond.instanceMethod yX7_move]
def wsX8_restack_r2 : List Cond := [Cond.selects RX7 yX7_move yX7_move, Cond.code yX7_move cX7_move 4 none, Cond.fieldLink RX7 15 "TunnelRing$Yard" "taper" "[I", Cond.fieldLink RX7 18 "TunnelRing$Yard" "castAt" "[I", Cond.methodLink RX7 25 yX7_takeTop, Cond.instanceMethod yX7_takeTop, Cond.selects RX7 yX7_takeTop yX7_takeTop, Cond.code yX7_takeTop cX7_takeTop 2 none, Cond.methodLink RX7 29 yX7_put, Cond.instanceMethod yX7_put, Cond.selects RX7 yX7_put yX7_put, Cond.code yX7_put cX7_put 5 none]
def wsX8_restack : List Cond := .code yX8_restack cX8_restack 3 (some .int) :: ((wsX8_restack_r1 ++ wsX8_restack_r2) ++ wsX80 ++ wsX70 ++ (vx_atS RX8 89 "java/lang/IllegalStateException" ["java/lang/RuntimeException", "java/lang/Exception"]).filter goodWord ++ (vx_atM "java/lang/ArrayIndexOutOfBoundsException" ["java/lang/IndexOutOfBoundsException", "java/lang/RuntimeException", "java/lang/Exception"]).filter goodWord ++ (vx_atS RX8 326 "java/lang/IndexOutOfBoundsException" ["java/lang/RuntimeException", "java/lang/Exception"]).filter goodWord ++ (vx_atS RX8 146 "java/util/NoSuchElementException" ["java/lang/RuntimeException", "java/lang/Exception"]).filter goodWord)
def wsX8_curedShare : List Cond := .code yX8_curedShare cX8_curedShare 2 (some .float) :: ([.classLink RX8 168 "java/lang/ArithmeticException", .initialized "java/lang/ArithmeticException", .fieldLink RX8 33 "TunnelRing" "yard" "LTunnelRing$Yard;", .fieldLink RX8 75 "TunnelRing" "hour" "I", .methodLink RX8 164 yX7_countRings, .instanceMethod yX7_countRings, .selects RX7 yX7_countRings yX7_countRings, .initialized RX7, .code yX7_countRings cX7_countRings 3 (some .int), .fieldLink RX7 9 "TunnelRing$Yard" "height" "[I", .methodLink RX8 173 yX7_countCured, .instanceMethod yX7_countCured, .selects RX7 yX7_countCured yX7_countCured, .code yX7_countCured cX7_countCured 5 (some .int), .methodLink RX7 38 yX7_hoursLeft, .instanceMethod yX7_hoursLeft, .selects RX7 yX7_hoursLeft yX7_hoursLeft, .code yX7_hoursLeft cX7_hoursLeft 4 (some .int), .fieldLink RX7 18 "TunnelRing$Yard" "castAt" "[I", .methodLink RX7 33 Lib.Math.max.name, .static Lib.Math.max.name, .initialized "java/lang/Math", .code Lib.Math.max.name Lib.Math.max.code 2 (some .int)] ++ wsX80 ++ wsX70 ++ (vx_atS RX8 172 "java/lang/ArithmeticException" ["java/lang/RuntimeException", "java/lang/Exception"]).filter goodWord ++ (vx_atM "java/lang/ArrayIndexOutOfBoundsException" ["java/lang/IndexOutOfBoundsException", "java/lang/RuntimeException", "java/lang/Exception"]).filter goodWord)
def wsX8_setPressure : List Cond := .code yX8_setPressure cX8_setPressure 3 (some .int) :: ([.fieldLink RX8 65 "TunnelRing" "pressure" "I", .methodLink RX8 78 yX8_checkRange, .static yX8_checkRange, .initialized RX8, .code yX8_checkRange cX8_checkRange 3 none, .classLink RX8 112 "java/lang/IllegalArgumentException", .initialized "java/lang/IllegalArgumentException"] ++ wsX80 ++ (vx_atS RX8 116 "java/lang/IllegalArgumentException" ["java/lang/RuntimeException", "java/lang/Exception"]).filter goodWord)
def wsX8_addSlurry : List Cond := .code yX8_addSlurry cX8_addSlurry 2 (some .int) :: ([.classLink RX8 85 "java/lang/IllegalStateException", .initialized "java/lang/IllegalStateException", .fieldLink RX8 69 "TunnelRing" "tank" "I", .methodLink RX8 78 yX8_checkRange, .static yX8_checkRange, .initialized RX8, .code yX8_checkRange cX8_checkRange 3 none, .classLink RX8 112 "java/lang/IllegalArgumentException", .initialized "java/lang/IllegalArgumentException"] ++ wsX80 ++ (vx_atS RX8 89 "java/lang/IllegalStateException" ["java/lang/RuntimeException", "java/lang/Exception"]).filter goodWord ++ (vx_atS RX8 116 "java/lang/IllegalArgumentException" ["java/lang/RuntimeException", "java/lang/Exception"]).filter goodWord)
def wsX8_slurry : List Cond := .code yX8_slurry cX8_slurry 1 (some .int) :: ([.fieldLink RX8 69 "TunnelRing" "tank" "I"] ++ wsX80)
def wsX8_slurryTaken : List Cond := .code yX8_slurryTaken cX8_slurryTaken 3 (some .int) :: ([.fieldLink RX8 65 "TunnelRing" "pressure" "I", .fieldLink RX8 10 "TunnelRing" "ground" "LTunnelRing$Ground;", .methodLink RX8 345 Lib.Math.max.name, .static Lib.Math.max.name, .initialized "java/lang/Math", .code Lib.Math.max.name Lib.Math.max.code 2 (some .int), .methodLink RX8 105 yX1_needOf, .instanceMethod yX1_needOf, .selects RX1 yX1_needOf yX1_needOf, .initialized RX1, .code yX1_needOf cX1_needOf 2 (some .int), .fieldLink RX1 9 "TunnelRing$Ground" "need" "[I", .methodLink RX1 31 yX1_isKnown, .instanceMethod yX1_isKnown, .selects RX1 yX1_isKnown yX1_isKnown, .code yX1_isKnown cX1_isKnown 2 (some .boolean), .fieldLink RX1 21 "TunnelRing$Ground" "known" "I", .methodLink RX8 109 yX1_weaknessOf, .instanceMethod yX1_weaknessOf, .selects RX1 yX1_weaknessOf yX1_weaknessOf, .code yX1_weaknessOf cX1_weaknessOf 2 (some .int), .fieldLink RX1 15 "TunnelRing$Ground" "weakness" "[I"] ++ wsX80 ++ wsX10 ++ (vx_atM "java/lang/ArrayIndexOutOfBoundsException" ["java/lang/IndexOutOfBoundsException", "java/lang/RuntimeException", "java/lang/Exception"]).filter goodWord)
def wsX8_slurryFor_r1 : List Cond := [Cond.classLink RX8 142 "java/util/NoSuchElementException", Cond.initialized "java/util/NoSuchElementException", Cond.fieldLink RX8 10 "TunnelRing" "ground" "LTunnelRing$Ground;", Cond.fieldLink RX8 40 "TunnelRing" "tube" "LTunnelRing$Tube;", Cond.fieldLink RX8 178 "TunnelRing$Tube" "laid" "I", Cond.methodLink RX8 181 yX1_isKnown, Cond.instanceMethod yX1_isKnown, Cond.selects RX1 yX1_isKnown yX1_isKnown, Cond.initialized RX1, Cond.code yX1_isKnown cX1_isKnown 2 (some .boolean), Cond.fieldLink RX1 21 "TunnelRing$Ground" "known" "I", Cond.methodLink RX8 186 yX8_slurryTaken, Cond.instanceMethod yX8_slurryTaken, Cond.selects RX8 yX8_slurryTaken yX8_slurryTaken, Cond.initialized RX8, Cond.code yX8_slurryTaken cX8_slurryTaken 3 (some .int), Cond.fieldLink RX8 65 "TunnelRing" "pressure" "I", Cond.methodLink RX8 345 Lib.Math.max.name, Cond.static Lib.Math.max.name, Cond.initialized "java/lang/Math", Cond.code Lib.Math.max.name Lib.Math.max.code 2 (some .int), Cond.methodLink RX8 105 yX1_needOf, Cond.instanceMethod yX1_needOf, Cond.selects RX1 yX1_needOf yX1_needOf]
def wsX8_slurryFor_r2 : List Cond := [Cond.code yX1_needOf cX1_needOf 2 (some .int), Cond.fieldLink RX1 9 "TunnelRing$Ground" "need" "[I", Cond.methodLink RX1 31 yX1_isKnown, Cond.methodLink RX8 109 yX1_weaknessOf, Cond.instanceMethod yX1_weaknessOf, Cond.selects RX1 yX1_weaknessOf yX1_weaknessOf, Cond.code yX1_weaknessOf cX1_weaknessOf 2 (some .int), Cond.fieldLink RX1 15 "TunnelRing$Ground" "weakness" "[I"]
def wsX8_slurryFor : List Cond := .code yX8_slurryFor cX8_slurryFor 1 (some .int) :: ((wsX8_slurryFor_r1 ++ wsX8_slurryFor_r2) ++ wsX80 ++ wsX60 ++ wsX10 ++ (vx_atS RX8 146 "java/util/NoSuchElementException" ["java/lang/RuntimeException", "java/lang/Exception"]).filter goodWord ++ (vx_atM "java/lang/ArrayIndexOutOfBoundsException" ["java/lang/IndexOutOfBoundsException", "java/lang/RuntimeException", "java/lang/Exception"]).filter goodWord)
def wsX8_setTolerance : List Cond := .code yX8_setTolerance cX8_setTolerance 3 (some .int) :: ([.fieldLink RX8 72 "TunnelRing" "tolerance" "I", .methodLink RX8 78 yX8_checkRange, .static yX8_checkRange, .initialized RX8, .code yX8_checkRange cX8_checkRange 3 none, .classLink RX8 112 "java/lang/IllegalArgumentException", .initialized "java/lang/IllegalArgumentException"] ++ wsX80 ++ (vx_atS RX8 116 "java/lang/IllegalArgumentException" ["java/lang/RuntimeException", "java/lang/Exception"]).filter goodWord)
def wsX8_checkPosition : List Cond := .code yX8_checkPosition cX8_checkPosition 1 none :: ([.classLink RX8 112 "java/lang/IllegalArgumentException", .initialized "java/lang/IllegalArgumentException", .fieldLink RX8 260 "TunnelRing" "TO_SIDE" "[I"] ++ (vx_atS RX8 116 "java/lang/IllegalArgumentException" ["java/lang/RuntimeException", "java/lang/Exception"]).filter goodWord)
def wsX8_fits : List Cond := .code yX8_fits cX8_fits 2 (some .boolean) :: ([.methodLink RX8 245 Lib.Math.abs.name, .static Lib.Math.abs.name, .initialized "java/lang/Math", .code Lib.Math.abs.name Lib.Math.abs.code 1 (some .int)])
def wsX8_followPlan_r1 : List Cond := [Cond.fieldLink RX8 54 "TunnelRing" "followed" "LTunnelRing$Course;", Cond.fieldLink RX8 19 "TunnelRing" "plan" "LTunnelRing$Plan;", Cond.methodLink RX8 301 yX0_restart, Cond.instanceMethod yX0_restart, Cond.selects RX0 yX0_restart yX0_restart, Cond.initialized RX0, Cond.code yX0_restart cX0_restart 1 none, Cond.fieldLink RX0 7 "TunnelRing$Course" "x" "I", Cond.fieldLink RX0 13 "TunnelRing$Course" "y" "I", Cond.fieldLink RX0 16 "TunnelRing$Course" "headingX" "I", Cond.fieldLink RX0 19 "TunnelRing$Course" "headingY" "I", Cond.methodLink RX8 354 yX3_sideBend, Cond.instanceMethod yX3_sideBend, Cond.selects RX3 yX3_sideBend yX3_sideBend, Cond.initialized RX3, Cond.code yX3_sideBend cX3_sideBend 2 (some .int), Cond.fieldLink RX3 18 "TunnelRing$Plan" "planned" "I", Cond.fieldLink RX3 9 "TunnelRing$Plan" "bendX" "[I", Cond.methodLink RX8 357 yX3_upBend, Cond.instanceMethod yX3_upBend, Cond.selects RX3 yX3_upBend yX3_upBend, Cond.code yX3_upBend cX3_upBend 2 (some .int), Cond.fieldLink RX3 15 "TunnelRing$Plan" "bendY" "[I", Cond.methodLink RX8 360 yX0_bend]
def wsX8_followPlan_r2 : List Cond := [Cond.instanceMethod yX0_bend, Cond.selects RX0 yX0_bend yX0_bend, Cond.code yX0_bend cX0_bend 3 none]
def wsX8_followPlan : List Cond := .code yX8_followPlan cX8_followPlan 3 none :: ((wsX8_followPlan_r1 ++ wsX8_followPlan_r2) ++ wsX80 ++ wsX00 ++ wsX30 ++ (vx_atM "java/lang/ArrayIndexOutOfBoundsException" ["java/lang/IndexOutOfBoundsException", "java/lang/RuntimeException", "java/lang/Exception"]).filter goodWord)
def wsX8_prepareSearch_r1 : List Cond := [Cond.fieldLink RX8 40 "TunnelRing" "tube" "LTunnelRing$Tube;", Cond.fieldLink RX8 178 "TunnelRing$Tube" "laid" "I", Cond.fieldLink RX8 47 "TunnelRing" "search" "LTunnelRing$Search;", Cond.fieldLink RX8 363 "TunnelRing$Tube" "end" "LTunnelRing$Course;", Cond.fieldLink RX8 54 "TunnelRing" "followed" "LTunnelRing$Course;", Cond.fieldLink RX8 33 "TunnelRing" "yard" "LTunnelRing$Yard;", Cond.fieldLink RX8 138 "TunnelRing$Yard" "height" "[I", Cond.fieldLink RX8 19 "TunnelRing" "plan" "LTunnelRing$Plan;", Cond.methodLink RX8 242 yX8_followPlan, Cond.instanceMethod yX8_followPlan, Cond.selects RX8 yX8_followPlan yX8_followPlan, Cond.initialized RX8, Cond.code yX8_followPlan cX8_followPlan 3 none, Cond.methodLink RX8 301 yX0_restart, Cond.instanceMethod yX0_restart, Cond.selects RX0 yX0_restart yX0_restart, Cond.initialized RX0, Cond.code yX0_restart cX0_restart 1 none, Cond.fieldLink RX0 7 "TunnelRing$Course" "x" "I", Cond.fieldLink RX0 13 "TunnelRing$Course" "y" "I", Cond.fieldLink RX0 16 "TunnelRing$Course" "headingX" "I", Cond.fieldLink RX0 19 "TunnelRing$Course" "headingY" "I", Cond.methodLink RX8 354 yX3_sideBend, Cond.instanceMethod yX3_sideBend]
def wsX8_prepareSearch_r2 : List Cond := [Cond.selects RX3 yX3_sideBend yX3_sideBend, Cond.initialized RX3, Cond.code yX3_sideBend cX3_sideBend 2 (some .int), Cond.fieldLink RX3 18 "TunnelRing$Plan" "planned" "I", Cond.fieldLink RX3 9 "TunnelRing$Plan" "bendX" "[I", Cond.methodLink RX8 357 yX3_upBend, Cond.instanceMethod yX3_upBend, Cond.selects RX3 yX3_upBend yX3_upBend, Cond.code yX3_upBend cX3_upBend 2 (some .int), Cond.fieldLink RX3 15 "TunnelRing$Plan" "bendY" "[I", Cond.methodLink RX8 360 yX0_bend, Cond.instanceMethod yX0_bend, Cond.selects RX0 yX0_bend yX0_bend, Cond.code yX0_bend cX0_bend 3 none, Cond.methodLink RX8 366 yX4_restart, Cond.instanceMethod yX4_restart, Cond.selects RX4 yX4_restart yX4_restart, Cond.initialized RX4, Cond.code yX4_restart cX4_restart 3 none, Cond.fieldLink RX4 12 "TunnelRing$Search" "gap" "LTunnelRing$Course;", Cond.fieldLink RX4 28 "TunnelRing$Course" "x" "I", Cond.fieldLink RX4 32 "TunnelRing$Course" "y" "I", Cond.fieldLink RX4 35 "TunnelRing$Course" "headingX" "I", Cond.fieldLink RX4 38 "TunnelRing$Course" "headingY" "I"]
def wsX8_prepareSearch_r3 : List Cond := [Cond.fieldLink RX4 41 "TunnelRing$Search" "rings" "I", Cond.constant RX4 44 (2147483647), Cond.fieldLink RX4 45 "TunnelRing$Search" "least" "I", Cond.methodLink RX8 147 yX7_taperIn, Cond.instanceMethod yX7_taperIn, Cond.selects RX7 yX7_taperIn yX7_taperIn, Cond.initialized RX7, Cond.code yX7_taperIn cX7_taperIn 3 (some .int), Cond.fieldLink RX7 15 "TunnelRing$Yard" "taper" "[I", Cond.methodLink RX8 369 yX4_add, Cond.instanceMethod yX4_add, Cond.selects RX4 yX4_add yX4_add, Cond.code yX4_add cX4_add 4 none, Cond.fieldLink RX4 18 "TunnelRing$Search" "taper" "[I", Cond.fieldLink RX4 22 "TunnelRing$Search" "bendX" "[I", Cond.fieldLink RX4 25 "TunnelRing$Search" "bendY" "[I"]
def wsX8_prepareSearch : List Cond := .code yX8_prepareSearch cX8_prepareSearch 6 none :: ((wsX8_prepareSearch_r1 ++ (wsX8_prepareSearch_r2 ++ wsX8_prepareSearch_r3)) ++ wsX80 ++ wsX60 ++ wsX70 ++ wsX00 ++ wsX30 ++ wsX40 ++ (vx_atM "java/lang/ArrayIndexOutOfBoundsException" ["java/lang/IndexOutOfBoundsException", "java/lang/RuntimeException", "java/lang/Exception"]).filter goodWord)
def wsX8_firstReason_r1 : List Cond := [Cond.fieldLink RX8 40 "TunnelRing" "tube" "LTunnelRing$Tube;", Cond.fieldLink RX8 178 "TunnelRing$Tube" "laid" "I", Cond.fieldLink RX8 10 "TunnelRing" "ground" "LTunnelRing$Ground;", Cond.fieldLink RX8 33 "TunnelRing" "yard" "LTunnelRing$Yard;", Cond.fieldLink RX8 138 "TunnelRing$Yard" "height" "[I", Cond.fieldLink RX8 75 "TunnelRing" "hour" "I", Cond.fieldLink RX8 69 "TunnelRing" "tank" "I", Cond.fieldLink RX8 47 "TunnelRing" "search" "LTunnelRing$Search;", Cond.fieldLink RX8 72 "TunnelRing" "tolerance" "I", Cond.methodLink RX8 181 yX1_isKnown, Cond.instanceMethod yX1_isKnown, Cond.selects RX1 yX1_isKnown yX1_isKnown, Cond.initialized RX1, Cond.code yX1_isKnown cX1_isKnown 2 (some .boolean), Cond.fieldLink RX1 21 "TunnelRing$Ground" "known" "I", Cond.methodLink RX8 155 yX7_hoursLeft, Cond.instanceMethod yX7_hoursLeft, Cond.selects RX7 yX7_hoursLeft yX7_hoursLeft, Cond.initialized RX7, Cond.code yX7_hoursLeft cX7_hoursLeft 4 (some .int), Cond.fieldLink RX7 18 "TunnelRing$Yard" "castAt" "[I", Cond.methodLink RX7 33 Lib.Math.max.name, Cond.static Lib.Math.max.name, Cond.initialized "java/lang/Math"]
def wsX8_firstReason_r2 : List Cond := [Cond.code Lib.Math.max.name Lib.Math.max.code 2 (some .int), Cond.methodLink RX8 256 yX6_lastPosition, Cond.instanceMethod yX6_lastPosition, Cond.selects RX6 yX6_lastPosition yX6_lastPosition, Cond.initialized RX6, Cond.code yX6_lastPosition cX6_lastPosition 1 (some .int), Cond.fieldLink RX6 31 "TunnelRing$Tube" "laid" "I", Cond.fieldLink RX6 9 "TunnelRing$Tube" "position" "[I", Cond.methodLink RX8 263 yX8_fits, Cond.static yX8_fits, Cond.initialized RX8, Cond.code yX8_fits cX8_fits 2 (some .boolean), Cond.methodLink RX8 245 Lib.Math.abs.name, Cond.static Lib.Math.abs.name, Cond.code Lib.Math.abs.name Lib.Math.abs.code 1 (some .int), Cond.methodLink RX8 186 yX8_slurryTaken, Cond.instanceMethod yX8_slurryTaken, Cond.selects RX8 yX8_slurryTaken yX8_slurryTaken, Cond.code yX8_slurryTaken cX8_slurryTaken 3 (some .int), Cond.fieldLink RX8 65 "TunnelRing" "pressure" "I", Cond.methodLink RX8 345 Lib.Math.max.name, Cond.methodLink RX8 105 yX1_needOf, Cond.instanceMethod yX1_needOf, Cond.selects RX1 yX1_needOf yX1_needOf]
def wsX8_firstReason_r3 : List Cond := [Cond.code yX1_needOf cX1_needOf 2 (some .int), Cond.fieldLink RX1 9 "TunnelRing$Ground" "need" "[I", Cond.methodLink RX1 31 yX1_isKnown, Cond.methodLink RX8 109 yX1_weaknessOf, Cond.instanceMethod yX1_weaknessOf, Cond.selects RX1 yX1_weaknessOf yX1_weaknessOf, Cond.code yX1_weaknessOf cX1_weaknessOf 2 (some .int), Cond.fieldLink RX1 15 "TunnelRing$Ground" "weakness" "[I", Cond.methodLink RX8 250 yX8_prepareSearch, Cond.instanceMethod yX8_prepareSearch, Cond.selects RX8 yX8_prepareSearch yX8_prepareSearch, Cond.code yX8_prepareSearch cX8_prepareSearch 6 none, Cond.fieldLink RX8 363 "TunnelRing$Tube" "end" "LTunnelRing$Course;", Cond.fieldLink RX8 54 "TunnelRing" "followed" "LTunnelRing$Course;", Cond.fieldLink RX8 19 "TunnelRing" "plan" "LTunnelRing$Plan;", Cond.methodLink RX8 242 yX8_followPlan, Cond.instanceMethod yX8_followPlan, Cond.selects RX8 yX8_followPlan yX8_followPlan, Cond.code yX8_followPlan cX8_followPlan 3 none, Cond.methodLink RX8 301 yX0_restart, Cond.instanceMethod yX0_restart, Cond.selects RX0 yX0_restart yX0_restart, Cond.initialized RX0, Cond.code yX0_restart cX0_restart 1 none]
def wsX8_firstReason_r4 : List Cond := [Cond.fieldLink RX0 7 "TunnelRing$Course" "x" "I", Cond.fieldLink RX0 13 "TunnelRing$Course" "y" "I", Cond.fieldLink RX0 16 "TunnelRing$Course" "headingX" "I", Cond.fieldLink RX0 19 "TunnelRing$Course" "headingY" "I", Cond.methodLink RX8 354 yX3_sideBend, Cond.instanceMethod yX3_sideBend, Cond.selects RX3 yX3_sideBend yX3_sideBend, Cond.initialized RX3, Cond.code yX3_sideBend cX3_sideBend 2 (some .int), Cond.fieldLink RX3 18 "TunnelRing$Plan" "planned" "I", Cond.fieldLink RX3 9 "TunnelRing$Plan" "bendX" "[I", Cond.methodLink RX8 357 yX3_upBend, Cond.instanceMethod yX3_upBend, Cond.selects RX3 yX3_upBend yX3_upBend, Cond.code yX3_upBend cX3_upBend 2 (some .int), Cond.fieldLink RX3 15 "TunnelRing$Plan" "bendY" "[I", Cond.methodLink RX8 360 yX0_bend, Cond.instanceMethod yX0_bend, Cond.selects RX0 yX0_bend yX0_bend, Cond.code yX0_bend cX0_bend 3 none, Cond.methodLink RX8 366 yX4_restart, Cond.instanceMethod yX4_restart, Cond.selects RX4 yX4_restart yX4_restart, Cond.initialized RX4]
def wsX8_firstReason_r5 : List Cond := [Cond.code yX4_restart cX4_restart 3 none, Cond.fieldLink RX4 12 "TunnelRing$Search" "gap" "LTunnelRing$Course;", Cond.fieldLink RX4 28 "TunnelRing$Course" "x" "I", Cond.fieldLink RX4 32 "TunnelRing$Course" "y" "I", Cond.fieldLink RX4 35 "TunnelRing$Course" "headingX" "I", Cond.fieldLink RX4 38 "TunnelRing$Course" "headingY" "I", Cond.fieldLink RX4 41 "TunnelRing$Search" "rings" "I", Cond.constant RX4 44 (2147483647), Cond.fieldLink RX4 45 "TunnelRing$Search" "least" "I", Cond.methodLink RX8 147 yX7_taperIn, Cond.instanceMethod yX7_taperIn, Cond.selects RX7 yX7_taperIn yX7_taperIn, Cond.code yX7_taperIn cX7_taperIn 3 (some .int), Cond.fieldLink RX7 15 "TunnelRing$Yard" "taper" "[I", Cond.methodLink RX8 369 yX4_add, Cond.instanceMethod yX4_add, Cond.selects RX4 yX4_add yX4_add, Cond.code yX4_add cX4_add 4 none, Cond.fieldLink RX4 18 "TunnelRing$Search" "taper" "[I", Cond.fieldLink RX4 22 "TunnelRing$Search" "bendX" "[I", Cond.fieldLink RX4 25 "TunnelRing$Search" "bendY" "[I", Cond.methodLink RX8 253 yX4_deviationIn, Cond.instanceMethod yX4_deviationIn, Cond.selects RX4 yX4_deviationIn yX4_deviationIn]
def wsX8_firstReason_r6 : List Cond := [Cond.code yX4_deviationIn cX4_deviationIn 3 (some .int), Cond.methodLink RX4 74 yX4_tryOut, Cond.instanceMethod yX4_tryOut, Cond.selects RX4 yX4_tryOut yX4_tryOut, Cond.code yX4_tryOut cX4_tryOut 3 none, Cond.methodLink RX4 48 yX4_changeX, Cond.instanceMethod yX4_changeX, Cond.selects RX4 yX4_changeX yX4_changeX, Cond.code yX4_changeX cX4_changeX 3 (some .int), Cond.methodLink RX4 52 yX4_changeY, Cond.instanceMethod yX4_changeY, Cond.selects RX4 yX4_changeY yX4_changeY, Cond.code yX4_changeY cX4_changeY 3 (some .int), Cond.methodLink RX4 55 yX0_bend, Cond.methodLink RX4 77 yX4_deviation, Cond.instanceMethod yX4_deviation, Cond.selects RX4 yX4_deviation yX4_deviation, Cond.code yX4_deviation cX4_deviation 1 (some .int), Cond.methodLink RX4 68 Lib.Math.abs.name, Cond.methodLink RX4 81 yX4_takeBack, Cond.instanceMethod yX4_takeBack, Cond.selects RX4 yX4_takeBack yX4_takeBack, Cond.code yX4_takeBack cX4_takeBack 3 none, Cond.methodLink RX4 59 yX0_unbend]
def wsX8_firstReason_r7 : List Cond := [Cond.instanceMethod yX0_unbend, Cond.selects RX0 yX0_unbend yX0_unbend, Cond.code yX0_unbend cX0_unbend 3 none]
def wsX8_firstReason : List Cond := .code yX8_firstReason cX8_firstReason 4 (some .char) :: ((wsX8_firstReason_r1 ++ (wsX8_firstReason_r2 ++ (wsX8_firstReason_r3 ++ (wsX8_firstReason_r4 ++ (wsX8_firstReason_r5 ++ (wsX8_firstReason_r6 ++ wsX8_firstReason_r7)))))) ++ wsX80 ++ wsX60 ++ wsX70 ++ wsX10 ++ wsX00 ++ wsX30 ++ wsX40 ++ (vx_atM "java/lang/ArrayIndexOutOfBoundsException" ["java/lang/IndexOutOfBoundsException", "java/lang/RuntimeException", "java/lang/Exception"]).filter goodWord)
def wsX8_reasonFor_r1 : List Cond := [Cond.methodLink RX8 126 yX8_checkStack, Cond.static yX8_checkStack, Cond.initialized RX8, Cond.code yX8_checkStack cX8_checkStack 1 none, Cond.classLink RX8 322 "java/lang/IndexOutOfBoundsException", Cond.initialized "java/lang/IndexOutOfBoundsException", Cond.methodLink RX8 189 yX8_checkPosition, Cond.static yX8_checkPosition, Cond.code yX8_checkPosition cX8_checkPosition 1 none, Cond.classLink RX8 112 "java/lang/IllegalArgumentException", Cond.initialized "java/lang/IllegalArgumentException", Cond.fieldLink RX8 260 "TunnelRing" "TO_SIDE" "[I", Cond.methodLink RX8 192 yX8_firstReason, Cond.instanceMethod yX8_firstReason, Cond.selects RX8 yX8_firstReason yX8_firstReason, Cond.code yX8_firstReason cX8_firstReason 4 (some .char), Cond.fieldLink RX8 40 "TunnelRing" "tube" "LTunnelRing$Tube;", Cond.fieldLink RX8 178 "TunnelRing$Tube" "laid" "I", Cond.fieldLink RX8 10 "TunnelRing" "ground" "LTunnelRing$Ground;", Cond.fieldLink RX8 33 "TunnelRing" "yard" "LTunnelRing$Yard;", Cond.fieldLink RX8 138 "TunnelRing$Yard" "height" "[I", Cond.fieldLink RX8 75 "TunnelRing" "hour" "I", Cond.fieldLink RX8 69 "TunnelRing" "tank" "I", Cond.fieldLink RX8 47 "TunnelRing" "search" "LTunnelRing$Search;"]
def wsX8_reasonFor_r2 : List Cond := [Cond.fieldLink RX8 72 "TunnelRing" "tolerance" "I", Cond.methodLink RX8 181 yX1_isKnown, Cond.instanceMethod yX1_isKnown, Cond.selects RX1 yX1_isKnown yX1_isKnown, Cond.initialized RX1, Cond.code yX1_isKnown cX1_isKnown 2 (some .boolean), Cond.fieldLink RX1 21 "TunnelRing$Ground" "known" "I", Cond.methodLink RX8 155 yX7_hoursLeft, Cond.instanceMethod yX7_hoursLeft, Cond.selects RX7 yX7_hoursLeft yX7_hoursLeft, Cond.initialized RX7, Cond.code yX7_hoursLeft cX7_hoursLeft 4 (some .int), Cond.fieldLink RX7 18 "TunnelRing$Yard" "castAt" "[I", Cond.methodLink RX7 33 Lib.Math.max.name, Cond.static Lib.Math.max.name, Cond.initialized "java/lang/Math", Cond.code Lib.Math.max.name Lib.Math.max.code 2 (some .int), Cond.methodLink RX8 256 yX6_lastPosition, Cond.instanceMethod yX6_lastPosition, Cond.selects RX6 yX6_lastPosition yX6_lastPosition, Cond.initialized RX6, Cond.code yX6_lastPosition cX6_lastPosition 1 (some .int), Cond.fieldLink RX6 31 "TunnelRing$Tube" "laid" "I", Cond.fieldLink RX6 9 "TunnelRing$Tube" "position" "[I"]
def wsX8_reasonFor_r3 : List Cond := [Cond.methodLink RX8 263 yX8_fits, Cond.static yX8_fits, Cond.code yX8_fits cX8_fits 2 (some .boolean), Cond.methodLink RX8 245 Lib.Math.abs.name, Cond.static Lib.Math.abs.name, Cond.code Lib.Math.abs.name Lib.Math.abs.code 1 (some .int), Cond.methodLink RX8 186 yX8_slurryTaken, Cond.instanceMethod yX8_slurryTaken, Cond.selects RX8 yX8_slurryTaken yX8_slurryTaken, Cond.code yX8_slurryTaken cX8_slurryTaken 3 (some .int), Cond.fieldLink RX8 65 "TunnelRing" "pressure" "I", Cond.methodLink RX8 345 Lib.Math.max.name, Cond.methodLink RX8 105 yX1_needOf, Cond.instanceMethod yX1_needOf, Cond.selects RX1 yX1_needOf yX1_needOf, Cond.code yX1_needOf cX1_needOf 2 (some .int), Cond.fieldLink RX1 9 "TunnelRing$Ground" "need" "[I", Cond.methodLink RX1 31 yX1_isKnown, Cond.methodLink RX8 109 yX1_weaknessOf, Cond.instanceMethod yX1_weaknessOf, Cond.selects RX1 yX1_weaknessOf yX1_weaknessOf, Cond.code yX1_weaknessOf cX1_weaknessOf 2 (some .int), Cond.fieldLink RX1 15 "TunnelRing$Ground" "weakness" "[I", Cond.methodLink RX8 250 yX8_prepareSearch]
def wsX8_reasonFor_r4 : List Cond := [Cond.instanceMethod yX8_prepareSearch, Cond.selects RX8 yX8_prepareSearch yX8_prepareSearch, Cond.code yX8_prepareSearch cX8_prepareSearch 6 none, Cond.fieldLink RX8 363 "TunnelRing$Tube" "end" "LTunnelRing$Course;", Cond.fieldLink RX8 54 "TunnelRing" "followed" "LTunnelRing$Course;", Cond.fieldLink RX8 19 "TunnelRing" "plan" "LTunnelRing$Plan;", Cond.methodLink RX8 242 yX8_followPlan, Cond.instanceMethod yX8_followPlan, Cond.selects RX8 yX8_followPlan yX8_followPlan, Cond.code yX8_followPlan cX8_followPlan 3 none, Cond.methodLink RX8 301 yX0_restart, Cond.instanceMethod yX0_restart, Cond.selects RX0 yX0_restart yX0_restart, Cond.initialized RX0, Cond.code yX0_restart cX0_restart 1 none, Cond.fieldLink RX0 7 "TunnelRing$Course" "x" "I", Cond.fieldLink RX0 13 "TunnelRing$Course" "y" "I", Cond.fieldLink RX0 16 "TunnelRing$Course" "headingX" "I", Cond.fieldLink RX0 19 "TunnelRing$Course" "headingY" "I", Cond.methodLink RX8 354 yX3_sideBend, Cond.instanceMethod yX3_sideBend, Cond.selects RX3 yX3_sideBend yX3_sideBend, Cond.initialized RX3, Cond.code yX3_sideBend cX3_sideBend 2 (some .int)]
def wsX8_reasonFor_r5 : List Cond := [Cond.fieldLink RX3 18 "TunnelRing$Plan" "planned" "I", Cond.fieldLink RX3 9 "TunnelRing$Plan" "bendX" "[I", Cond.methodLink RX8 357 yX3_upBend, Cond.instanceMethod yX3_upBend, Cond.selects RX3 yX3_upBend yX3_upBend, Cond.code yX3_upBend cX3_upBend 2 (some .int), Cond.fieldLink RX3 15 "TunnelRing$Plan" "bendY" "[I", Cond.methodLink RX8 360 yX0_bend, Cond.instanceMethod yX0_bend, Cond.selects RX0 yX0_bend yX0_bend, Cond.code yX0_bend cX0_bend 3 none, Cond.methodLink RX8 366 yX4_restart, Cond.instanceMethod yX4_restart, Cond.selects RX4 yX4_restart yX4_restart, Cond.initialized RX4, Cond.code yX4_restart cX4_restart 3 none, Cond.fieldLink RX4 12 "TunnelRing$Search" "gap" "LTunnelRing$Course;", Cond.fieldLink RX4 28 "TunnelRing$Course" "x" "I", Cond.fieldLink RX4 32 "TunnelRing$Course" "y" "I", Cond.fieldLink RX4 35 "TunnelRing$Course" "headingX" "I", Cond.fieldLink RX4 38 "TunnelRing$Course" "headingY" "I", Cond.fieldLink RX4 41 "TunnelRing$Search" "rings" "I", Cond.constant RX4 44 (2147483647), Cond.fieldLink RX4 45 "TunnelRing$Search" "least" "I"]
def wsX8_reasonFor_r6 : List Cond := [Cond.methodLink RX8 147 yX7_taperIn, Cond.instanceMethod yX7_taperIn, Cond.selects RX7 yX7_taperIn yX7_taperIn, Cond.code yX7_taperIn cX7_taperIn 3 (some .int), Cond.fieldLink RX7 15 "TunnelRing$Yard" "taper" "[I", Cond.methodLink RX8 369 yX4_add, Cond.instanceMethod yX4_add, Cond.selects RX4 yX4_add yX4_add, Cond.code yX4_add cX4_add 4 none, Cond.fieldLink RX4 18 "TunnelRing$Search" "taper" "[I", Cond.fieldLink RX4 22 "TunnelRing$Search" "bendX" "[I", Cond.fieldLink RX4 25 "TunnelRing$Search" "bendY" "[I", Cond.methodLink RX8 253 yX4_deviationIn, Cond.instanceMethod yX4_deviationIn, Cond.selects RX4 yX4_deviationIn yX4_deviationIn, Cond.code yX4_deviationIn cX4_deviationIn 3 (some .int), Cond.methodLink RX4 74 yX4_tryOut, Cond.instanceMethod yX4_tryOut, Cond.selects RX4 yX4_tryOut yX4_tryOut, Cond.code yX4_tryOut cX4_tryOut 3 none, Cond.methodLink RX4 48 yX4_changeX, Cond.instanceMethod yX4_changeX, Cond.selects RX4 yX4_changeX yX4_changeX, Cond.code yX4_changeX cX4_changeX 3 (some .int)]
def wsX8_reasonFor_r7 : List Cond := [Cond.methodLink RX4 52 yX4_changeY, Cond.instanceMethod yX4_changeY, Cond.selects RX4 yX4_changeY yX4_changeY, Cond.code yX4_changeY cX4_changeY 3 (some .int), Cond.methodLink RX4 55 yX0_bend, Cond.methodLink RX4 77 yX4_deviation, Cond.instanceMethod yX4_deviation, Cond.selects RX4 yX4_deviation yX4_deviation, Cond.code yX4_deviation cX4_deviation 1 (some .int), Cond.methodLink RX4 68 Lib.Math.abs.name, Cond.methodLink RX4 81 yX4_takeBack, Cond.instanceMethod yX4_takeBack, Cond.selects RX4 yX4_takeBack yX4_takeBack, Cond.code yX4_takeBack cX4_takeBack 3 none, Cond.methodLink RX4 59 yX0_unbend, Cond.instanceMethod yX0_unbend, Cond.selects RX0 yX0_unbend yX0_unbend, Cond.code yX0_unbend cX0_unbend 3 none]
def wsX8_reasonFor : List Cond := .code yX8_reasonFor cX8_reasonFor 3 (some .char) :: ((wsX8_reasonFor_r1 ++ (wsX8_reasonFor_r2 ++ (wsX8_reasonFor_r3 ++ (wsX8_reasonFor_r4 ++ (wsX8_reasonFor_r5 ++ (wsX8_reasonFor_r6 ++ wsX8_reasonFor_r7)))))) ++ wsX80 ++ wsX60 ++ wsX70 ++ wsX10 ++ wsX00 ++ wsX30 ++ wsX40 ++ (vx_atS RX8 326 "java/lang/IndexOutOfBoundsException" ["java/lang/RuntimeException", "java/lang/Exception"]).filter goodWord ++ (vx_atS RX8 116 "java/lang/IllegalArgumentException" ["java/lang/RuntimeException", "java/lang/Exception"]).filter goodWord ++ (vx_atM "java/lang/ArrayIndexOutOfBoundsException" ["java/lang/IndexOutOfBoundsException", "java/lang/RuntimeException", "java/lang/Exception"]).filter goodWord)
def wsX8_sinkWhileLaying_r1 : List Cond := [Cond.fieldLink RX8 10 "TunnelRing" "ground" "LTunnelRing$Ground;", Cond.fieldLink RX8 65 "TunnelRing" "pressure" "I", Cond.methodLink RX8 348 yX1_missing, Cond.instanceMethod yX1_missing, Cond.selects RX1 yX1_missing yX1_missing, Cond.initialized RX1, Cond.code yX1_missing cX1_missing 3 (some .int), Cond.methodLink RX1 39 Lib.Math.max.name, Cond.static Lib.Math.max.name, Cond.initialized "java/lang/Math", Cond.code Lib.Math.max.name Lib.Math.max.code 2 (some .int), Cond.methodLink RX1 35 yX1_needOf, Cond.instanceMethod yX1_needOf, Cond.selects RX1 yX1_needOf yX1_needOf, Cond.code yX1_needOf cX1_needOf 2 (some .int), Cond.fieldLink RX1 9 "TunnelRing$Ground" "need" "[I", Cond.methodLink RX1 31 yX1_isKnown, Cond.instanceMethod yX1_isKnown, Cond.selects RX1 yX1_isKnown yX1_isKnown, Cond.code yX1_isKnown cX1_isKnown 2 (some .boolean), Cond.fieldLink RX1 21 "TunnelRing$Ground" "known" "I", Cond.methodLink RX8 109 yX1_weaknessOf, Cond.instanceMethod yX1_weaknessOf, Cond.selects RX1 yX1_weaknessOf yX1_weaknessOf]
def wsX8_sinkWhileLaying_r2 : List Cond := [Cond.code yX1_weaknessOf cX1_weaknessOf 2 (some .int), Cond.fieldLink RX1 15 "TunnelRing$Ground" "weakness" "[I", Cond.methodLink RX8 351 yX1_sink, Cond.instanceMethod yX1_sink, Cond.selects RX1 yX1_sink yX1_sink, Cond.code yX1_sink cX1_sink 3 none, Cond.fieldLink RX1 18 "TunnelRing$Ground" "sinking" "[I"]
def wsX8_sinkWhileLaying : List Cond := .code yX8_sinkWhileLaying cX8_sinkWhileLaying 3 none :: ((wsX8_sinkWhileLaying_r1 ++ wsX8_sinkWhileLaying_r2) ++ wsX80 ++ wsX10 ++ (vx_atM "java/lang/ArrayIndexOutOfBoundsException" ["java/lang/IndexOutOfBoundsException", "java/lang/RuntimeException", "java/lang/Exception"]).filter goodWord)
def wsX8_lay_r1 : List Cond := [Cond.classLink RX8 196 "java/lang/UnsupportedOperationException", Cond.initialized "java/lang/UnsupportedOperationException", Cond.classLink RX8 85 "java/lang/IllegalStateException", Cond.initialized "java/lang/IllegalStateException", Cond.fieldLink RX8 75 "TunnelRing" "hour" "I", Cond.fieldLink RX8 40 "TunnelRing" "tube" "LTunnelRing$Tube;", Cond.fieldLink RX8 178 "TunnelRing$Tube" "laid" "I", Cond.fieldLink RX8 69 "TunnelRing" "tank" "I", Cond.fieldLink RX8 33 "TunnelRing" "yard" "LTunnelRing$Yard;", Cond.methodLink RX8 126 yX8_checkStack, Cond.static yX8_checkStack, Cond.initialized RX8, Cond.code yX8_checkStack cX8_checkStack 1 none, Cond.classLink RX8 322 "java/lang/IndexOutOfBoundsException", Cond.initialized "java/lang/IndexOutOfBoundsException", Cond.methodLink RX8 189 yX8_checkPosition, Cond.static yX8_checkPosition, Cond.code yX8_checkPosition cX8_checkPosition 1 none, Cond.classLink RX8 112 "java/lang/IllegalArgumentException", Cond.initialized "java/lang/IllegalArgumentException", Cond.fieldLink RX8 260 "TunnelRing" "TO_SIDE" "[I", Cond.methodLink RX8 192 yX8_firstReason, Cond.instanceMethod yX8_firstReason, Cond.selects RX8 yX8_firstReason yX8_firstReason]
def wsX8_lay_r2 : List Cond := [Cond.code yX8_firstReason cX8_firstReason 4 (some .char), Cond.fieldLink RX8 10 "TunnelRing" "ground" "LTunnelRing$Ground;", Cond.fieldLink RX8 138 "TunnelRing$Yard" "height" "[I", Cond.fieldLink RX8 47 "TunnelRing" "search" "LTunnelRing$Search;", Cond.fieldLink RX8 72 "TunnelRing" "tolerance" "I", Cond.methodLink RX8 181 yX1_isKnown, Cond.instanceMethod yX1_isKnown, Cond.selects RX1 yX1_isKnown yX1_isKnown, Cond.initialized RX1, Cond.code yX1_isKnown cX1_isKnown 2 (some .boolean), Cond.fieldLink RX1 21 "TunnelRing$Ground" "known" "I", Cond.methodLink RX8 155 yX7_hoursLeft, Cond.instanceMethod yX7_hoursLeft, Cond.selects RX7 yX7_hoursLeft yX7_hoursLeft, Cond.initialized RX7, Cond.code yX7_hoursLeft cX7_hoursLeft 4 (some .int), Cond.fieldLink RX7 18 "TunnelRing$Yard" "castAt" "[I", Cond.methodLink RX7 33 Lib.Math.max.name, Cond.static Lib.Math.max.name, Cond.initialized "java/lang/Math", Cond.code Lib.Math.max.name Lib.Math.max.code 2 (some .int), Cond.methodLink RX8 256 yX6_lastPosition, Cond.instanceMethod yX6_lastPosition, Cond.selects RX6 yX6_lastPosition yX6_lastPosition]
def wsX8_lay_r3 : List Cond := [Cond.initialized RX6, Cond.code yX6_lastPosition cX6_lastPosition 1 (some .int), Cond.fieldLink RX6 31 "TunnelRing$Tube" "laid" "I", Cond.fieldLink RX6 9 "TunnelRing$Tube" "position" "[I", Cond.methodLink RX8 263 yX8_fits, Cond.static yX8_fits, Cond.code yX8_fits cX8_fits 2 (some .boolean), Cond.methodLink RX8 245 Lib.Math.abs.name, Cond.static Lib.Math.abs.name, Cond.code Lib.Math.abs.name Lib.Math.abs.code 1 (some .int), Cond.methodLink RX8 186 yX8_slurryTaken, Cond.instanceMethod yX8_slurryTaken, Cond.selects RX8 yX8_slurryTaken yX8_slurryTaken, Cond.code yX8_slurryTaken cX8_slurryTaken 3 (some .int), Cond.fieldLink RX8 65 "TunnelRing" "pressure" "I", Cond.methodLink RX8 345 Lib.Math.max.name, Cond.methodLink RX8 105 yX1_needOf, Cond.instanceMethod yX1_needOf, Cond.selects RX1 yX1_needOf yX1_needOf, Cond.code yX1_needOf cX1_needOf 2 (some .int), Cond.fieldLink RX1 9 "TunnelRing$Ground" "need" "[I", Cond.methodLink RX1 31 yX1_isKnown, Cond.methodLink RX8 109 yX1_weaknessOf, Cond.instanceMethod yX1_weaknessOf]
def wsX8_lay_r4 : List Cond := [Cond.selects RX1 yX1_weaknessOf yX1_weaknessOf, Cond.code yX1_weaknessOf cX1_weaknessOf 2 (some .int), Cond.fieldLink RX1 15 "TunnelRing$Ground" "weakness" "[I", Cond.methodLink RX8 250 yX8_prepareSearch, Cond.instanceMethod yX8_prepareSearch, Cond.selects RX8 yX8_prepareSearch yX8_prepareSearch, Cond.code yX8_prepareSearch cX8_prepareSearch 6 none, Cond.fieldLink RX8 363 "TunnelRing$Tube" "end" "LTunnelRing$Course;", Cond.fieldLink RX8 54 "TunnelRing" "followed" "LTunnelRing$Course;", Cond.fieldLink RX8 19 "TunnelRing" "plan" "LTunnelRing$Plan;", Cond.methodLink RX8 242 yX8_followPlan, Cond.instanceMethod yX8_followPlan, Cond.selects RX8 yX8_followPlan yX8_followPlan, Cond.code yX8_followPlan cX8_followPlan 3 none, Cond.methodLink RX8 301 yX0_restart, Cond.instanceMethod yX0_restart, Cond.selects RX0 yX0_restart yX0_restart, Cond.initialized RX0, Cond.code yX0_restart cX0_restart 1 none, Cond.fieldLink RX0 7 "TunnelRing$Course" "x" "I", Cond.fieldLink RX0 13 "TunnelRing$Course" "y" "I", Cond.fieldLink RX0 16 "TunnelRing$Course" "headingX" "I", Cond.fieldLink RX0 19 "TunnelRing$Course" "headingY" "I", Cond.methodLink RX8 354 yX3_sideBend]
def wsX8_lay_r5 : List Cond := [Cond.instanceMethod yX3_sideBend, Cond.selects RX3 yX3_sideBend yX3_sideBend, Cond.initialized RX3, Cond.code yX3_sideBend cX3_sideBend 2 (some .int), Cond.fieldLink RX3 18 "TunnelRing$Plan" "planned" "I", Cond.fieldLink RX3 9 "TunnelRing$Plan" "bendX" "[I", Cond.methodLink RX8 357 yX3_upBend, Cond.instanceMethod yX3_upBend, Cond.selects RX3 yX3_upBend yX3_upBend, Cond.code yX3_upBend cX3_upBend 2 (some .int), Cond.fieldLink RX3 15 "TunnelRing$Plan" "bendY" "[I", Cond.methodLink RX8 360 yX0_bend, Cond.instanceMethod yX0_bend, Cond.selects RX0 yX0_bend yX0_bend, Cond.code yX0_bend cX0_bend 3 none, Cond.methodLink RX8 366 yX4_restart, Cond.instanceMethod yX4_restart, Cond.selects RX4 yX4_restart yX4_restart, Cond.initialized RX4, Cond.code yX4_restart cX4_restart 3 none, Cond.fieldLink RX4 12 "TunnelRing$Search" "gap" "LTunnelRing$Course;", Cond.fieldLink RX4 28 "TunnelRing$Course" "x" "I", Cond.fieldLink RX4 32 "TunnelRing$Course" "y" "I", Cond.fieldLink RX4 35 "TunnelRing$Course" "headingX" "I"]
def wsX8_lay_r6 : List Cond := [Cond.fieldLink RX4 38 "TunnelRing$Course" "headingY" "I", Cond.fieldLink RX4 41 "TunnelRing$Search" "rings" "I", Cond.constant RX4 44 (2147483647), Cond.fieldLink RX4 45 "TunnelRing$Search" "least" "I", Cond.methodLink RX8 147 yX7_taperIn, Cond.instanceMethod yX7_taperIn, Cond.selects RX7 yX7_taperIn yX7_taperIn, Cond.code yX7_taperIn cX7_taperIn 3 (some .int), Cond.fieldLink RX7 15 "TunnelRing$Yard" "taper" "[I", Cond.methodLink RX8 369 yX4_add, Cond.instanceMethod yX4_add, Cond.selects RX4 yX4_add yX4_add, Cond.code yX4_add cX4_add 4 none, Cond.fieldLink RX4 18 "TunnelRing$Search" "taper" "[I", Cond.fieldLink RX4 22 "TunnelRing$Search" "bendX" "[I", Cond.fieldLink RX4 25 "TunnelRing$Search" "bendY" "[I", Cond.methodLink RX8 253 yX4_deviationIn, Cond.instanceMethod yX4_deviationIn, Cond.selects RX4 yX4_deviationIn yX4_deviationIn, Cond.code yX4_deviationIn cX4_deviationIn 3 (some .int), Cond.methodLink RX4 74 yX4_tryOut, Cond.instanceMethod yX4_tryOut, Cond.selects RX4 yX4_tryOut yX4_tryOut, Cond.code yX4_tryOut cX4_tryOut 3 none]
def wsX8_lay_r7 : List Cond := [Cond.methodLink RX4 48 yX4_changeX, Cond.instanceMethod yX4_changeX, Cond.selects RX4 yX4_changeX yX4_changeX, Cond.code yX4_changeX cX4_changeX 3 (some .int), Cond.methodLink RX4 52 yX4_changeY, Cond.instanceMethod yX4_changeY, Cond.selects RX4 yX4_changeY yX4_changeY, Cond.code yX4_changeY cX4_changeY 3 (some .int), Cond.methodLink RX4 55 yX0_bend, Cond.methodLink RX4 77 yX4_deviation, Cond.instanceMethod yX4_deviation, Cond.selects RX4 yX4_deviation yX4_deviation, Cond.code yX4_deviation cX4_deviation 1 (some .int), Cond.methodLink RX4 68 Lib.Math.abs.name, Cond.methodLink RX4 81 yX4_takeBack, Cond.instanceMethod yX4_takeBack, Cond.selects RX4 yX4_takeBack yX4_takeBack, Cond.code yX4_takeBack cX4_takeBack 3 none, Cond.methodLink RX4 59 yX0_unbend, Cond.instanceMethod yX0_unbend, Cond.selects RX0 yX0_unbend yX0_unbend, Cond.code yX0_unbend cX0_unbend 3 none, Cond.methodLink RX8 203 yX8_sinkWhileLaying, Cond.instanceMethod yX8_sinkWhileLaying]
def wsX8_lay_r8 : List Cond := [Cond.selects RX8 yX8_sinkWhileLaying yX8_sinkWhileLaying, Cond.code yX8_sinkWhileLaying cX8_sinkWhileLaying 3 none, Cond.methodLink RX8 348 yX1_missing, Cond.instanceMethod yX1_missing, Cond.selects RX1 yX1_missing yX1_missing, Cond.code yX1_missing cX1_missing 3 (some .int), Cond.methodLink RX1 39 Lib.Math.max.name, Cond.methodLink RX1 35 yX1_needOf, Cond.methodLink RX8 351 yX1_sink, Cond.instanceMethod yX1_sink, Cond.selects RX1 yX1_sink yX1_sink, Cond.code yX1_sink cX1_sink 3 none, Cond.fieldLink RX1 18 "TunnelRing$Ground" "sinking" "[I", Cond.methodLink RX8 206 yX7_topTaper, Cond.instanceMethod yX7_topTaper, Cond.selects RX7 yX7_topTaper yX7_topTaper, Cond.code yX7_topTaper cX7_topTaper 2 (some .int), Cond.fieldLink RX7 9 "TunnelRing$Yard" "height" "[I", Cond.methodLink RX7 21 yX7_taperIn, Cond.methodLink RX8 209 yX6_append, Cond.instanceMethod yX6_append, Cond.selects RX6 yX6_append yX6_append, Cond.code yX6_append cX6_append 3 none, Cond.fieldLink RX6 27 "TunnelRing$Tube" "end" "LTunnelRing$Course;"]
def wsX8_lay_r9 : List Cond := [Cond.fieldLink RX6 15 "TunnelRing$Tube" "taper" "[I", Cond.fieldLink RX6 18 "TunnelRing$Tube" "keptX" "[I", Cond.fieldLink RX6 39 "TunnelRing$Course" "x" "I", Cond.fieldLink RX6 21 "TunnelRing$Tube" "keptY" "[I", Cond.fieldLink RX6 42 "TunnelRing$Course" "y" "I", Cond.methodLink RX6 35 yX0_addRing, Cond.instanceMethod yX0_addRing, Cond.selects RX0 yX0_addRing yX0_addRing, Cond.code yX0_addRing cX0_addRing 3 none, Cond.methodLink RX0 31 yX0_bend, Cond.methodLink RX8 212 yX7_takeTop, Cond.instanceMethod yX7_takeTop, Cond.selects RX7 yX7_takeTop yX7_takeTop, Cond.code yX7_takeTop cX7_takeTop 2 none]
def wsX8_lay : List Cond := .code yX8_lay cX8_lay 4 (some .int) :: ((wsX8_lay_r1 ++ (wsX8_lay_r2 ++ (wsX8_lay_r3 ++ (wsX8_lay_r4 ++ (wsX8_lay_r5 ++ (wsX8_lay_r6 ++ (wsX8_lay_r7 ++ (wsX8_lay_r8 ++ wsX8_lay_r9)))))))) ++ wsX80 ++ wsX60 ++ wsX70 ++ wsX10 ++ wsX00 ++ wsX30 ++ wsX40 ++ (vx_atS RX8 200 "java/lang/UnsupportedOperationException" ["java/lang/RuntimeException", "java/lang/Exception"]).filter goodWord ++ (vx_atS RX8 89 "java/lang/IllegalStateException" ["java/lang/RuntimeException", "java/lang/Exception"]).filter goodWord ++ (vx_atS RX8 326 "java/lang/IndexOutOfBoundsException" ["java/lang/RuntimeException", "java/lang/Exception"]).filter goodWord ++ (vx_atS RX8 116 "java/lang/IllegalArgumentException" ["java/lang/RuntimeException", "java/lang/Exception"]).filter goodWord ++ (vx_atM "java/lang/ArrayIndexOutOfBoundsException" ["java/lang/IndexOutOfBoundsException", "java/lang/RuntimeException", "java/lang/Exception"]).filter goodWord)
def wsX8_sinkWhileStanding_r1 : List Cond := [Cond.fieldLink RX8 10 "TunnelRing" "ground" "LTunnelRing$Ground;", Cond.fieldLink RX8 65 "TunnelRing" "pressure" "I", Cond.methodLink RX8 348 yX1_missing, Cond.instanceMethod yX1_missing, Cond.selects RX1 yX1_missing yX1_missing, Cond.initialized RX1, Cond.code yX1_missing cX1_missing 3 (some .int), Cond.methodLink RX1 39 Lib.Math.max.name, Cond.static Lib.Math.max.name, Cond.initialized "java/lang/Math", Cond.code Lib.Math.max.name Lib.Math.max.code 2 (some .int), Cond.methodLink RX1 35 yX1_needOf, Cond.instanceMethod yX1_needOf, Cond.selects RX1 yX1_needOf yX1_needOf, Cond.code yX1_needOf cX1_needOf 2 (some .int), Cond.fieldLink RX1 9 "TunnelRing$Ground" "need" "[I", Cond.methodLink RX1 31 yX1_isKnown, Cond.instanceMethod yX1_isKnown, Cond.selects RX1 yX1_isKnown yX1_isKnown, Cond.code yX1_isKnown cX1_isKnown 2 (some .boolean), Cond.fieldLink RX1 21 "TunnelRing$Ground" "known" "I", Cond.methodLink RX8 109 yX1_weaknessOf, Cond.instanceMethod yX1_weaknessOf, Cond.selects RX1 yX1_weaknessOf yX1_weaknessOf]
def wsX8_sinkWhileStanding_r2 : List Cond := [Cond.code yX1_weaknessOf cX1_weaknessOf 2 (some .int), Cond.fieldLink RX1 15 "TunnelRing$Ground" "weakness" "[I", Cond.methodLink RX8 351 yX1_sink, Cond.instanceMethod yX1_sink, Cond.selects RX1 yX1_sink yX1_sink, Cond.code yX1_sink cX1_sink 3 none, Cond.fieldLink RX1 18 "TunnelRing$Ground" "sinking" "[I"]
def wsX8_sinkWhileStanding : List Cond := .code yX8_sinkWhileStanding cX8_sinkWhileStanding 4 none :: ((wsX8_sinkWhileStanding_r1 ++ wsX8_sinkWhileStanding_r2) ++ wsX80 ++ wsX10 ++ (vx_atM "java/lang/ArrayIndexOutOfBoundsException" ["java/lang/IndexOutOfBoundsException", "java/lang/RuntimeException", "java/lang/Exception"]).filter goodWord)
def wsX8_stop_r1 : List Cond := [Cond.classLink RX8 85 "java/lang/IllegalStateException", Cond.initialized "java/lang/IllegalStateException", Cond.fieldLink RX8 75 "TunnelRing" "hour" "I", Cond.fieldLink RX8 40 "TunnelRing" "tube" "LTunnelRing$Tube;", Cond.fieldLink RX8 178 "TunnelRing$Tube" "laid" "I", Cond.methodLink RX8 78 yX8_checkRange, Cond.static yX8_checkRange, Cond.initialized RX8, Cond.code yX8_checkRange cX8_checkRange 3 none, Cond.classLink RX8 112 "java/lang/IllegalArgumentException", Cond.initialized "java/lang/IllegalArgumentException", Cond.methodLink RX8 215 yX8_sinkWhileStanding, Cond.instanceMethod yX8_sinkWhileStanding, Cond.selects RX8 yX8_sinkWhileStanding yX8_sinkWhileStanding, Cond.code yX8_sinkWhileStanding cX8_sinkWhileStanding 4 none, Cond.fieldLink RX8 10 "TunnelRing" "ground" "LTunnelRing$Ground;", Cond.fieldLink RX8 65 "TunnelRing" "pressure" "I", Cond.methodLink RX8 348 yX1_missing, Cond.instanceMethod yX1_missing, Cond.selects RX1 yX1_missing yX1_missing, Cond.initialized RX1, Cond.code yX1_missing cX1_missing 3 (some .int), Cond.methodLink RX1 39 Lib.Math.max.name, Cond.static Lib.Math.max.name]
def wsX8_stop_r2 : List Cond := [Cond.initialized "java/lang/Math", Cond.code Lib.Math.max.name Lib.Math.max.code 2 (some .int), Cond.methodLink RX1 35 yX1_needOf, Cond.instanceMethod yX1_needOf, Cond.selects RX1 yX1_needOf yX1_needOf, Cond.code yX1_needOf cX1_needOf 2 (some .int), Cond.fieldLink RX1 9 "TunnelRing$Ground" "need" "[I", Cond.methodLink RX1 31 yX1_isKnown, Cond.instanceMethod yX1_isKnown, Cond.selects RX1 yX1_isKnown yX1_isKnown, Cond.code yX1_isKnown cX1_isKnown 2 (some .boolean), Cond.fieldLink RX1 21 "TunnelRing$Ground" "known" "I", Cond.methodLink RX8 109 yX1_weaknessOf, Cond.instanceMethod yX1_weaknessOf, Cond.selects RX1 yX1_weaknessOf yX1_weaknessOf, Cond.code yX1_weaknessOf cX1_weaknessOf 2 (some .int), Cond.fieldLink RX1 15 "TunnelRing$Ground" "weakness" "[I", Cond.methodLink RX8 351 yX1_sink, Cond.instanceMethod yX1_sink, Cond.selects RX1 yX1_sink yX1_sink, Cond.code yX1_sink cX1_sink 3 none, Cond.fieldLink RX1 18 "TunnelRing$Ground" "sinking" "[I"]
def wsX8_stop : List Cond := .code yX8_stop cX8_stop 2 (some .int) :: ((wsX8_stop_r1 ++ wsX8_stop_r2) ++ wsX80 ++ wsX60 ++ wsX10 ++ (vx_atS RX8 89 "java/lang/IllegalStateException" ["java/lang/RuntimeException", "java/lang/Exception"]).filter goodWord ++ (vx_atS RX8 116 "java/lang/IllegalArgumentException" ["java/lang/RuntimeException", "java/lang/Exception"]).filter goodWord ++ (vx_atM "java/lang/ArrayIndexOutOfBoundsException" ["java/lang/IndexOutOfBoundsException", "java/lang/RuntimeException", "java/lang/Exception"]).filter goodWord)
def wsX8_clock : List Cond := .code yX8_clock cX8_clock 1 (some .int) :: ([.fieldLink RX8 75 "TunnelRing" "hour" "I"] ++ wsX80)
def wsX8_ringCount : List Cond := .code yX8_ringCount cX8_ringCount 1 (some .int) :: ([.fieldLink RX8 40 "TunnelRing" "tube" "LTunnelRing$Tube;", .fieldLink RX8 178 "TunnelRing$Tube" "laid" "I"] ++ wsX80 ++ wsX60)
def wsX8_checkLaid : List Cond := .code yX8_checkLaid cX8_checkLaid 2 none :: ([.classLink RX8 322 "java/lang/IndexOutOfBoundsException", .initialized "java/lang/IndexOutOfBoundsException", .fieldLink RX8 40 "TunnelRing" "tube" "LTunnelRing$Tube;", .fieldLink RX8 178 "TunnelRing$Tube" "laid" "I"] ++ wsX80 ++ wsX60 ++ (vx_atS RX8 326 "java/lang/IndexOutOfBoundsException" ["java/lang/RuntimeException", "java/lang/Exception"]).filter goodWord)
def wsX8_positionOf : List Cond := .code yX8_positionOf cX8_positionOf 2 (some .int) :: ([.fieldLink RX8 40 "TunnelRing" "tube" "LTunnelRing$Tube;", .fieldLink RX8 221 "TunnelRing$Tube" "position" "[I", .methodLink RX8 218 yX8_checkLaid, .instanceMethod yX8_checkLaid, .selects RX8 yX8_checkLaid yX8_checkLaid, .initialized RX8, .code yX8_checkLaid cX8_checkLaid 2 none, .classLink RX8 322 "java/lang/IndexOutOfBoundsException", .initialized "java/lang/IndexOutOfBoundsException", .fieldLink RX8 178 "TunnelRing$Tube" "laid" "I"] ++ wsX80 ++ wsX60 ++ (vx_atM "java/lang/ArrayIndexOutOfBoundsException" ["java/lang/IndexOutOfBoundsException", "java/lang/RuntimeException", "java/lang/Exception"]).filter goodWord ++ (vx_atS RX8 326 "java/lang/IndexOutOfBoundsException" ["java/lang/RuntimeException", "java/lang/Exception"]).filter goodWord)
def wsX8_taperOf : List Cond := .code yX8_taperOf cX8_taperOf 2 (some .int) :: ([.fieldLink RX8 40 "TunnelRing" "tube" "LTunnelRing$Tube;", .fieldLink RX8 224 "TunnelRing$Tube" "taper" "[I", .methodLink RX8 218 yX8_checkLaid, .instanceMethod yX8_checkLaid, .selects RX8 yX8_checkLaid yX8_checkLaid, .initialized RX8, .code yX8_checkLaid cX8_checkLaid 2 none, .classLink RX8 322 "java/lang/IndexOutOfBoundsException", .initialized "java/lang/IndexOutOfBoundsException", .fieldLink RX8 178 "TunnelRing$Tube" "laid" "I"] ++ wsX80 ++ wsX60 ++ (vx_atM "java/lang/ArrayIndexOutOfBoundsException" ["java/lang/IndexOutOfBoundsException", "java/lang/RuntimeException", "java/lang/Exception"]).filter goodWord ++ (vx_atS RX8 326 "java/lang/IndexOutOfBoundsException" ["java/lang/RuntimeException", "java/lang/Exception"]).filter goodWord)
def wsX8_xAfter : List Cond := .code yX8_xAfter cX8_xAfter 2 (some .int) :: ([.fieldLink RX8 40 "TunnelRing" "tube" "LTunnelRing$Tube;", .fieldLink RX8 227 "TunnelRing$Tube" "keptX" "[I", .methodLink RX8 218 yX8_checkLaid, .instanceMethod yX8_checkLaid, .selects RX8 yX8_checkLaid yX8_checkLaid, .initialized RX8, .code yX8_checkLaid cX8_checkLaid 2 none, .classLink RX8 322 "java/lang/IndexOutOfBoundsException", .initialized "java/lang/IndexOutOfBoundsException", .fieldLink RX8 178 "TunnelRing$Tube" "laid" "I"] ++ wsX80 ++ wsX60 ++ (vx_atM "java/lang/ArrayIndexOutOfBoundsException" ["java/lang/IndexOutOfBoundsException", "java/lang/RuntimeException", "java/lang/Exception"]).filter goodWord ++ (vx_atS RX8 326 "java/lang/IndexOutOfBoundsException" ["java/lang/RuntimeException", "java/lang/Exception"]).filter goodWord)
def wsX8_yAfter : List Cond := .code yX8_yAfter cX8_yAfter 2 (some .int) :: ([.fieldLink RX8 40 "TunnelRing" "tube" "LTunnelRing$Tube;", .fieldLink RX8 230 "TunnelRing$Tube" "keptY" "[I", .methodLink RX8 218 yX8_checkLaid, .instanceMethod yX8_checkLaid, .selects RX8 yX8_checkLaid yX8_checkLaid, .initialized RX8, .code yX8_checkLaid cX8_checkLaid 2 none, .classLink RX8 322 "java/lang/IndexOutOfBoundsException", .initialized "java/lang/IndexOutOfBoundsException", .fieldLink RX8 178 "TunnelRing$Tube" "laid" "I"] ++ wsX80 ++ wsX60 ++ (vx_atM "java/lang/ArrayIndexOutOfBoundsException" ["java/lang/IndexOutOfBoundsException", "java/lang/RuntimeException", "java/lang/Exception"]).filter goodWord ++ (vx_atS RX8 326 "java/lang/IndexOutOfBoundsException" ["java/lang/RuntimeException", "java/lang/Exception"]).filter goodWord)
def wsX8_followRings : List Cond := .code yX8_followRings cX8_followRings 3 none :: ([.fieldLink RX8 54 "TunnelRing" "followed" "LTunnelRing$Course;", .fieldLink RX8 40 "TunnelRing" "tube" "LTunnelRing$Tube;", .fieldLink RX8 221 "TunnelRing$Tube" "position" "[I", .fieldLink RX8 224 "TunnelRing$Tube" "taper" "[I", .methodLink RX8 301 yX0_restart, .instanceMethod yX0_restart, .selects RX0 yX0_restart yX0_restart, .initialized RX0, .code yX0_restart cX0_restart 1 none, .fieldLink RX0 7 "TunnelRing$Course" "x" "I", .fieldLink RX0 13 "TunnelRing$Course" "y" "I", .fieldLink RX0 16 "TunnelRing$Course" "headingX" "I", .fieldLink RX0 19 "TunnelRing$Course" "headingY" "I", .methodLink RX8 304 yX0_addRing, .instanceMethod yX0_addRing, .selects RX0 yX0_addRing yX0_addRing, .code yX0_addRing cX0_addRing 3 none, .methodLink RX0 31 yX0_bend, .instanceMethod yX0_bend, .selects RX0 yX0_bend yX0_bend, .code yX0_bend cX0_bend 3 none] ++ wsX80 ++ wsX60 ++ wsX00 ++ (vx_atM "java/lang/ArrayIndexOutOfBoundsException" ["java/lang/IndexOutOfBoundsException", "java/lang/RuntimeException", "java/lang/Exception"]).filter goodWord)
def wsX8_xAnew_r1 : List Cond := [Cond.fieldLink RX8 54 "TunnelRing" "followed" "LTunnelRing$Course;", Cond.fieldLink RX8 236 "TunnelRing$Course" "x" "I", Cond.methodLink RX8 218 yX8_checkLaid, Cond.instanceMethod yX8_checkLaid, Cond.selects RX8 yX8_checkLaid yX8_checkLaid, Cond.initialized RX8, Cond.code yX8_checkLaid cX8_checkLaid 2 none, Cond.classLink RX8 322 "java/lang/IndexOutOfBoundsException", Cond.initialized "java/lang/IndexOutOfBoundsException", Cond.fieldLink RX8 40 "TunnelRing" "tube" "LTunnelRing$Tube;", Cond.fieldLink RX8 178 "TunnelRing$Tube" "laid" "I", Cond.methodLink RX8 233 yX8_followRings, Cond.instanceMethod yX8_followRings, Cond.selects RX8 yX8_followRings yX8_followRings, Cond.code yX8_followRings cX8_followRings 3 none, Cond.fieldLink RX8 221 "TunnelRing$Tube" "position" "[I", Cond.fieldLink RX8 224 "TunnelRing$Tube" "taper" "[I", Cond.methodLink RX8 301 yX0_restart, Cond.instanceMethod yX0_restart, Cond.selects RX0 yX0_restart yX0_restart, Cond.initialized RX0, Cond.code yX0_restart cX0_restart 1 none, Cond.fieldLink RX0 7 "TunnelRing$Course" "x" "I", Cond.fieldLink RX0 13 "TunnelRing$Course" "y" "I"]
def wsX8_xAnew_r2 : List Cond := [Cond.fieldLink RX0 16 "TunnelRing$Course" "headingX" "I", Cond.fieldLink RX0 19 "TunnelRing$Course" "headingY" "I", Cond.methodLink RX8 304 yX0_addRing, Cond.instanceMethod yX0_addRing, Cond.selects RX0 yX0_addRing yX0_addRing, Cond.code yX0_addRing cX0_addRing 3 none, Cond.methodLink RX0 31 yX0_bend, Cond.instanceMethod yX0_bend, Cond.selects RX0 yX0_bend yX0_bend, Cond.code yX0_bend cX0_bend 3 none]
def wsX8_xAnew : List Cond := .code yX8_xAnew cX8_xAnew 2 (some .int) :: ((wsX8_xAnew_r1 ++ wsX8_xAnew_r2) ++ wsX80 ++ wsX00 ++ wsX60 ++ (vx_atS RX8 326 "java/lang/IndexOutOfBoundsException" ["java/lang/RuntimeException", "java/lang/Exception"]).filter goodWord ++ (vx_atM "java/lang/ArrayIndexOutOfBoundsException" ["java/lang/IndexOutOfBoundsException", "java/lang/RuntimeException", "java/lang/Exception"]).filter goodWord)
def wsX8_yAnew_r1 : List Cond := [Cond.fieldLink RX8 54 "TunnelRing" "followed" "LTunnelRing$Course;", Cond.fieldLink RX8 239 "TunnelRing$Course" "y" "I", Cond.methodLink RX8 218 yX8_checkLaid, Cond.instanceMethod yX8_checkLaid, Cond.selects RX8 yX8_checkLaid yX8_checkLaid, Cond.initialized RX8, Cond.code yX8_checkLaid cX8_checkLaid 2 none, Cond.classLink RX8 322 "java/lang/IndexOutOfBoundsException", Cond.initialized "java/lang/IndexOutOfBoundsException", Cond.fieldLink RX8 40 "TunnelRing" "tube" "LTunnelRing$Tube;", Cond.fieldLink RX8 178 "TunnelRing$Tube" "laid" "I", Cond.methodLink RX8 233 yX8_followRings, Cond.instanceMethod yX8_followRings, Cond.selects RX8 yX8_followRings yX8_followRings, Cond.code yX8_followRings cX8_followRings 3 none, Cond.fieldLink RX8 221 "TunnelRing$Tube" "position" "[I", Cond.fieldLink RX8 224 "TunnelRing$Tube" "taper" "[I", Cond.methodLink RX8 301 yX0_restart, Cond.instanceMethod yX0_restart, Cond.selects RX0 yX0_restart yX0_restart, Cond.initialized RX0, Cond.code yX0_restart cX0_restart 1 none, Cond.fieldLink RX0 7 "TunnelRing$Course" "x" "I", Cond.fieldLink RX0 13 "TunnelRing$Course" "y" "I"]
def wsX8_yAnew_r2 : List Cond := [Cond.fieldLink RX0 16 "TunnelRing$Course" "headingX" "I", Cond.fieldLink RX0 19 "TunnelRing$Course" "headingY" "I", Cond.methodLink RX8 304 yX0_addRing, Cond.instanceMethod yX0_addRing, Cond.selects RX0 yX0_addRing yX0_addRing, Cond.code yX0_addRing cX0_addRing 3 none, Cond.methodLink RX0 31 yX0_bend, Cond.instanceMethod yX0_bend, Cond.selects RX0 yX0_bend yX0_bend, Cond.code yX0_bend cX0_bend 3 none]
def wsX8_yAnew : List Cond := .code yX8_yAnew cX8_yAnew 2 (some .int) :: ((wsX8_yAnew_r1 ++ wsX8_yAnew_r2) ++ wsX80 ++ wsX00 ++ wsX60 ++ (vx_atS RX8 326 "java/lang/IndexOutOfBoundsException" ["java/lang/RuntimeException", "java/lang/Exception"]).filter goodWord ++ (vx_atM "java/lang/ArrayIndexOutOfBoundsException" ["java/lang/IndexOutOfBoundsException", "java/lang/RuntimeException", "java/lang/Exception"]).filter goodWord)
def wsX8_deviationAfter_r1 : List Cond := [Cond.fieldLink RX8 40 "TunnelRing" "tube" "LTunnelRing$Tube;", Cond.fieldLink RX8 227 "TunnelRing$Tube" "keptX" "[I", Cond.fieldLink RX8 54 "TunnelRing" "followed" "LTunnelRing$Course;", Cond.fieldLink RX8 236 "TunnelRing$Course" "x" "I", Cond.methodLink RX8 245 Lib.Math.abs.name, Cond.static Lib.Math.abs.name, Cond.initialized "java/lang/Math", Cond.code Lib.Math.abs.name Lib.Math.abs.code 1 (some .int), Cond.fieldLink RX8 230 "TunnelRing$Tube" "keptY" "[I", Cond.fieldLink RX8 239 "TunnelRing$Course" "y" "I", Cond.methodLink RX8 218 yX8_checkLaid, Cond.instanceMethod yX8_checkLaid, Cond.selects RX8 yX8_checkLaid yX8_checkLaid, Cond.initialized RX8, Cond.code yX8_checkLaid cX8_checkLaid 2 none, Cond.classLink RX8 322 "java/lang/IndexOutOfBoundsException", Cond.initialized "java/lang/IndexOutOfBoundsException", Cond.fieldLink RX8 178 "TunnelRing$Tube" "laid" "I", Cond.methodLink RX8 242 yX8_followPlan, Cond.instanceMethod yX8_followPlan, Cond.selects RX8 yX8_followPlan yX8_followPlan, Cond.code yX8_followPlan cX8_followPlan 3 none, Cond.fieldLink RX8 19 "TunnelRing" "plan" "LTunnelRing$Plan;", Cond.methodLink RX8 301 yX0_restart]
def wsX8_deviationAfter_r2 : List Cond := [Cond.instanceMethod yX0_restart, Cond.selects RX0 yX0_restart yX0_restart, Cond.initialized RX0, Cond.code yX0_restart cX0_restart 1 none, Cond.fieldLink RX0 7 "TunnelRing$Course" "x" "I", Cond.fieldLink RX0 13 "TunnelRing$Course" "y" "I", Cond.fieldLink RX0 16 "TunnelRing$Course" "headingX" "I", Cond.fieldLink RX0 19 "TunnelRing$Course" "headingY" "I", Cond.methodLink RX8 354 yX3_sideBend, Cond.instanceMethod yX3_sideBend, Cond.selects RX3 yX3_sideBend yX3_sideBend, Cond.initialized RX3, Cond.code yX3_sideBend cX3_sideBend 2 (some .int), Cond.fieldLink RX3 18 "TunnelRing$Plan" "planned" "I", Cond.fieldLink RX3 9 "TunnelRing$Plan" "bendX" "[I", Cond.methodLink RX8 357 yX3_upBend, Cond.instanceMethod yX3_upBend, Cond.selects RX3 yX3_upBend yX3_upBend, Cond.code yX3_upBend cX3_upBend 2 (some .int), Cond.fieldLink RX3 15 "TunnelRing$Plan" "bendY" "[I", Cond.methodLink RX8 360 yX0_bend, Cond.instanceMethod yX0_bend, Cond.selects RX0 yX0_bend yX0_bend, Cond.code yX0_bend cX0_bend 3 none]
def wsX8_deviationAfter : List Cond := .code yX8_deviationAfter cX8_deviationAfter 2 (some .int) :: ((wsX8_deviationAfter_r1 ++ wsX8_deviationAfter_r2) ++ wsX80 ++ wsX60 ++ wsX00 ++ wsX30 ++ (vx_atM "java/lang/ArrayIndexOutOfBoundsException" ["java/lang/IndexOutOfBoundsException", "java/lang/RuntimeException", "java/lang/Exception"]).filter goodWord ++ (vx_atS RX8 326 "java/lang/IndexOutOfBoundsException" ["java/lang/RuntimeException", "java/lang/Exception"]).filter goodWord)
def wsX8_deviationWith_r1 : List Cond := [Cond.fieldLink RX8 47 "TunnelRing" "search" "LTunnelRing$Search;", Cond.methodLink RX8 126 yX8_checkStack, Cond.static yX8_checkStack, Cond.initialized RX8, Cond.code yX8_checkStack cX8_checkStack 1 none, Cond.classLink RX8 322 "java/lang/IndexOutOfBoundsException", Cond.initialized "java/lang/IndexOutOfBoundsException", Cond.methodLink RX8 189 yX8_checkPosition, Cond.static yX8_checkPosition, Cond.code yX8_checkPosition cX8_checkPosition 1 none, Cond.classLink RX8 112 "java/lang/IllegalArgumentException", Cond.initialized "java/lang/IllegalArgumentException", Cond.fieldLink RX8 260 "TunnelRing" "TO_SIDE" "[I", Cond.methodLink RX8 151 yX8_checkRings, Cond.instanceMethod yX8_checkRings, Cond.selects RX8 yX8_checkRings yX8_checkRings, Cond.code yX8_checkRings cX8_checkRings 3 none, Cond.classLink RX8 142 "java/util/NoSuchElementException", Cond.initialized "java/util/NoSuchElementException", Cond.fieldLink RX8 33 "TunnelRing" "yard" "LTunnelRing$Yard;", Cond.fieldLink RX8 138 "TunnelRing$Yard" "height" "[I", Cond.methodLink RX8 250 yX8_prepareSearch, Cond.instanceMethod yX8_prepareSearch, Cond.selects RX8 yX8_prepareSearch yX8_prepareSearch]
def wsX8_deviationWith_r2 : List Cond := [Cond.code yX8_prepareSearch cX8_prepareSearch 6 none, Cond.fieldLink RX8 40 "TunnelRing" "tube" "LTunnelRing$Tube;", Cond.fieldLink RX8 178 "TunnelRing$Tube" "laid" "I", Cond.fieldLink RX8 363 "TunnelRing$Tube" "end" "LTunnelRing$Course;", Cond.fieldLink RX8 54 "TunnelRing" "followed" "LTunnelRing$Course;", Cond.fieldLink RX8 19 "TunnelRing" "plan" "LTunnelRing$Plan;", Cond.methodLink RX8 242 yX8_followPlan, Cond.instanceMethod yX8_followPlan, Cond.selects RX8 yX8_followPlan yX8_followPlan, Cond.code yX8_followPlan cX8_followPlan 3 none, Cond.methodLink RX8 301 yX0_restart, Cond.instanceMethod yX0_restart, Cond.selects RX0 yX0_restart yX0_restart, Cond.initialized RX0, Cond.code yX0_restart cX0_restart 1 none, Cond.fieldLink RX0 7 "TunnelRing$Course" "x" "I", Cond.fieldLink RX0 13 "TunnelRing$Course" "y" "I", Cond.fieldLink RX0 16 "TunnelRing$Course" "headingX" "I", Cond.fieldLink RX0 19 "TunnelRing$Course" "headingY" "I", Cond.methodLink RX8 354 yX3_sideBend, Cond.instanceMethod yX3_sideBend, Cond.selects RX3 yX3_sideBend yX3_sideBend, Cond.initialized RX3, Cond.code yX3_sideBend cX3_sideBend 2 (some .int)]
def wsX8_deviationWith_r3 : List Cond := [Cond.fieldLink RX3 18 "TunnelRing$Plan" "planned" "I", Cond.fieldLink RX3 9 "TunnelRing$Plan" "bendX" "[I", Cond.methodLink RX8 357 yX3_upBend, Cond.instanceMethod yX3_upBend, Cond.selects RX3 yX3_upBend yX3_upBend, Cond.code yX3_upBend cX3_upBend 2 (some .int), Cond.fieldLink RX3 15 "TunnelRing$Plan" "bendY" "[I", Cond.methodLink RX8 360 yX0_bend, Cond.instanceMethod yX0_bend, Cond.selects RX0 yX0_bend yX0_bend, Cond.code yX0_bend cX0_bend 3 none, Cond.methodLink RX8 366 yX4_restart, Cond.instanceMethod yX4_restart, Cond.selects RX4 yX4_restart yX4_restart, Cond.initialized RX4, Cond.code yX4_restart cX4_restart 3 none, Cond.fieldLink RX4 12 "TunnelRing$Search" "gap" "LTunnelRing$Course;", Cond.fieldLink RX4 28 "TunnelRing$Course" "x" "I", Cond.fieldLink RX4 32 "TunnelRing$Course" "y" "I", Cond.fieldLink RX4 35 "TunnelRing$Course" "headingX" "I", Cond.fieldLink RX4 38 "TunnelRing$Course" "headingY" "I", Cond.fieldLink RX4 41 "TunnelRing$Search" "rings" "I", Cond.constant RX4 44 (2147483647), Cond.fieldLink RX4 45 "TunnelRing$Search" "least" "I"]
def wsX8_deviationWith_r4 : List Cond := [Cond.methodLink RX8 147 yX7_taperIn, Cond.instanceMethod yX7_taperIn, Cond.selects RX7 yX7_taperIn yX7_taperIn, Cond.initialized RX7, Cond.code yX7_taperIn cX7_taperIn 3 (some .int), Cond.fieldLink RX7 15 "TunnelRing$Yard" "taper" "[I", Cond.methodLink RX8 369 yX4_add, Cond.instanceMethod yX4_add, Cond.selects RX4 yX4_add yX4_add, Cond.code yX4_add cX4_add 4 none, Cond.fieldLink RX4 18 "TunnelRing$Search" "taper" "[I", Cond.fieldLink RX4 22 "TunnelRing$Search" "bendX" "[I", Cond.fieldLink RX4 25 "TunnelRing$Search" "bendY" "[I", Cond.methodLink RX8 253 yX4_deviationIn, Cond.instanceMethod yX4_deviationIn, Cond.selects RX4 yX4_deviationIn yX4_deviationIn, Cond.code yX4_deviationIn cX4_deviationIn 3 (some .int), Cond.methodLink RX4 74 yX4_tryOut, Cond.instanceMethod yX4_tryOut, Cond.selects RX4 yX4_tryOut yX4_tryOut, Cond.code yX4_tryOut cX4_tryOut 3 none, Cond.methodLink RX4 48 yX4_changeX, Cond.instanceMethod yX4_changeX, Cond.selects RX4 yX4_changeX yX4_changeX]
def wsX8_deviationWith_r5 : List Cond := [Cond.code yX4_changeX cX4_changeX 3 (some .int), Cond.methodLink RX4 52 yX4_changeY, Cond.instanceMethod yX4_changeY, Cond.selects RX4 yX4_changeY yX4_changeY, Cond.code yX4_changeY cX4_changeY 3 (some .int), Cond.methodLink RX4 55 yX0_bend, Cond.methodLink RX4 77 yX4_deviation, Cond.instanceMethod yX4_deviation, Cond.selects RX4 yX4_deviation yX4_deviation, Cond.code yX4_deviation cX4_deviation 1 (some .int), Cond.methodLink RX4 68 Lib.Math.abs.name, Cond.static Lib.Math.abs.name, Cond.initialized "java/lang/Math", Cond.code Lib.Math.abs.name Lib.Math.abs.code 1 (some .int), Cond.methodLink RX4 81 yX4_takeBack, Cond.instanceMethod yX4_takeBack, Cond.selects RX4 yX4_takeBack yX4_takeBack, Cond.code yX4_takeBack cX4_takeBack 3 none, Cond.methodLink RX4 59 yX0_unbend, Cond.instanceMethod yX0_unbend, Cond.selects RX0 yX0_unbend yX0_unbend, Cond.code yX0_unbend cX0_unbend 3 none]
def wsX8_deviationWith : List Cond := .code yX8_deviationWith cX8_deviationWith 3 (some .int) :: ((wsX8_deviationWith_r1 ++ (wsX8_deviationWith_r2 ++ (wsX8_deviationWith_r3 ++ (wsX8_deviationWith_r4 ++ wsX8_deviationWith_r5)))) ++ wsX80 ++ wsX70 ++ wsX60 ++ wsX00 ++ wsX30 ++ wsX40 ++ (vx_atS RX8 326 "java/lang/IndexOutOfBoundsException" ["java/lang/RuntimeException", "java/lang/Exception"]).filter goodWord ++ (vx_atS RX8 116 "java/lang/IllegalArgumentException" ["java/lang/RuntimeException", "java/lang/Exception"]).filter goodWord ++ (vx_atM "java/lang/ArrayIndexOutOfBoundsException" ["java/lang/IndexOutOfBoundsException", "java/lang/RuntimeException", "java/lang/Exception"]).filter goodWord ++ (vx_atS RX8 146 "java/util/NoSuchElementException" ["java/lang/RuntimeException", "java/lang/Exception"]).filter goodWord)
def wsX8_bestPosition_r1 : List Cond := [Cond.fieldLink RX8 40 "TunnelRing" "tube" "LTunnelRing$Tube;", Cond.constant RX8 259 (2147483647), Cond.fieldLink RX8 260 "TunnelRing" "TO_SIDE" "[I", Cond.fieldLink RX8 47 "TunnelRing" "search" "LTunnelRing$Search;", Cond.methodLink RX8 126 yX8_checkStack, Cond.static yX8_checkStack, Cond.initialized RX8, Cond.code yX8_checkStack cX8_checkStack 1 none, Cond.classLink RX8 322 "java/lang/IndexOutOfBoundsException", Cond.initialized "java/lang/IndexOutOfBoundsException", Cond.methodLink RX8 151 yX8_checkRings, Cond.instanceMethod yX8_checkRings, Cond.selects RX8 yX8_checkRings yX8_checkRings, Cond.code yX8_checkRings cX8_checkRings 3 none, Cond.classLink RX8 142 "java/util/NoSuchElementException", Cond.initialized "java/util/NoSuchElementException", Cond.fieldLink RX8 33 "TunnelRing" "yard" "LTunnelRing$Yard;", Cond.fieldLink RX8 138 "TunnelRing$Yard" "height" "[I", Cond.methodLink RX8 250 yX8_prepareSearch, Cond.instanceMethod yX8_prepareSearch, Cond.selects RX8 yX8_prepareSearch yX8_prepareSearch, Cond.code yX8_prepareSearch cX8_prepareSearch 6 none, Cond.fieldLink RX8 178 "TunnelRing$Tube" "laid" "I", Cond.fieldLink RX8 363 "TunnelRing$Tube" "end" "LTunnelRing$Course;"]
def wsX8_bestPosition_r2 : List Cond := [Cond.fieldLink RX8 54 "TunnelRing" "followed" "LTunnelRing$Course;", Cond.fieldLink RX8 19 "TunnelRing" "plan" "LTunnelRing$Plan;", Cond.methodLink RX8 242 yX8_followPlan, Cond.instanceMethod yX8_followPlan, Cond.selects RX8 yX8_followPlan yX8_followPlan, Cond.code yX8_followPlan cX8_followPlan 3 none, Cond.methodLink RX8 301 yX0_restart, Cond.instanceMethod yX0_restart, Cond.selects RX0 yX0_restart yX0_restart, Cond.initialized RX0, Cond.code yX0_restart cX0_restart 1 none, Cond.fieldLink RX0 7 "TunnelRing$Course" "x" "I", Cond.fieldLink RX0 13 "TunnelRing$Course" "y" "I", Cond.fieldLink RX0 16 "TunnelRing$Course" "headingX" "I", Cond.fieldLink RX0 19 "TunnelRing$Course" "headingY" "I", Cond.methodLink RX8 354 yX3_sideBend, Cond.instanceMethod yX3_sideBend, Cond.selects RX3 yX3_sideBend yX3_sideBend, Cond.initialized RX3, Cond.code yX3_sideBend cX3_sideBend 2 (some .int), Cond.fieldLink RX3 18 "TunnelRing$Plan" "planned" "I", Cond.fieldLink RX3 9 "TunnelRing$Plan" "bendX" "[I", Cond.methodLink RX8 357 yX3_upBend, Cond.instanceMethod yX3_upBend]
def wsX8_bestPosition_r3 : List Cond := [Cond.selects RX3 yX3_upBend yX3_upBend, Cond.code yX3_upBend cX3_upBend 2 (some .int), Cond.fieldLink RX3 15 "TunnelRing$Plan" "bendY" "[I", Cond.methodLink RX8 360 yX0_bend, Cond.instanceMethod yX0_bend, Cond.selects RX0 yX0_bend yX0_bend, Cond.code yX0_bend cX0_bend 3 none, Cond.methodLink RX8 366 yX4_restart, Cond.instanceMethod yX4_restart, Cond.selects RX4 yX4_restart yX4_restart, Cond.initialized RX4, Cond.code yX4_restart cX4_restart 3 none, Cond.fieldLink RX4 12 "TunnelRing$Search" "gap" "LTunnelRing$Course;", Cond.fieldLink RX4 28 "TunnelRing$Course" "x" "I", Cond.fieldLink RX4 32 "TunnelRing$Course" "y" "I", Cond.fieldLink RX4 35 "TunnelRing$Course" "headingX" "I", Cond.fieldLink RX4 38 "TunnelRing$Course" "headingY" "I", Cond.fieldLink RX4 41 "TunnelRing$Search" "rings" "I", Cond.constant RX4 44 (2147483647), Cond.fieldLink RX4 45 "TunnelRing$Search" "least" "I", Cond.methodLink RX8 147 yX7_taperIn, Cond.instanceMethod yX7_taperIn, Cond.selects RX7 yX7_taperIn yX7_taperIn, Cond.initialized RX7]
def wsX8_bestPosition_r4 : List Cond := [Cond.code yX7_taperIn cX7_taperIn 3 (some .int), Cond.fieldLink RX7 15 "TunnelRing$Yard" "taper" "[I", Cond.methodLink RX8 369 yX4_add, Cond.instanceMethod yX4_add, Cond.selects RX4 yX4_add yX4_add, Cond.code yX4_add cX4_add 4 none, Cond.fieldLink RX4 18 "TunnelRing$Search" "taper" "[I", Cond.fieldLink RX4 22 "TunnelRing$Search" "bendX" "[I", Cond.fieldLink RX4 25 "TunnelRing$Search" "bendY" "[I", Cond.methodLink RX8 256 yX6_lastPosition, Cond.instanceMethod yX6_lastPosition, Cond.selects RX6 yX6_lastPosition yX6_lastPosition, Cond.initialized RX6, Cond.code yX6_lastPosition cX6_lastPosition 1 (some .int), Cond.fieldLink RX6 31 "TunnelRing$Tube" "laid" "I", Cond.fieldLink RX6 9 "TunnelRing$Tube" "position" "[I", Cond.methodLink RX8 263 yX8_fits, Cond.static yX8_fits, Cond.code yX8_fits cX8_fits 2 (some .boolean), Cond.methodLink RX8 245 Lib.Math.abs.name, Cond.static Lib.Math.abs.name, Cond.initialized "java/lang/Math", Cond.code Lib.Math.abs.name Lib.Math.abs.code 1 (some .int), Cond.methodLink RX8 253 yX4_deviationIn]
def wsX8_bestPosition_r5 : List Cond := [Cond.instanceMethod yX4_deviationIn, Cond.selects RX4 yX4_deviationIn yX4_deviationIn, Cond.code yX4_deviationIn cX4_deviationIn 3 (some .int), Cond.methodLink RX4 74 yX4_tryOut, Cond.instanceMethod yX4_tryOut, Cond.selects RX4 yX4_tryOut yX4_tryOut, Cond.code yX4_tryOut cX4_tryOut 3 none, Cond.methodLink RX4 48 yX4_changeX, Cond.instanceMethod yX4_changeX, Cond.selects RX4 yX4_changeX yX4_changeX, Cond.code yX4_changeX cX4_changeX 3 (some .int), Cond.methodLink RX4 52 yX4_changeY, Cond.instanceMethod yX4_changeY, Cond.selects RX4 yX4_changeY yX4_changeY, Cond.code yX4_changeY cX4_changeY 3 (some .int), Cond.methodLink RX4 55 yX0_bend, Cond.methodLink RX4 77 yX4_deviation, Cond.instanceMethod yX4_deviation, Cond.selects RX4 yX4_deviation yX4_deviation, Cond.code yX4_deviation cX4_deviation 1 (some .int), Cond.methodLink RX4 68 Lib.Math.abs.name, Cond.methodLink RX4 81 yX4_takeBack, Cond.instanceMethod yX4_takeBack, Cond.selects RX4 yX4_takeBack yX4_takeBack]
def wsX8_bestPosition_r6 : List Cond := [Cond.code yX4_takeBack cX4_takeBack 3 none, Cond.methodLink RX4 59 yX0_unbend, Cond.instanceMethod yX0_unbend, Cond.selects RX0 yX0_unbend yX0_unbend, Cond.code yX0_unbend cX0_unbend 3 none]
def wsX8_bestPosition : List Cond := .code yX8_bestPosition cX8_bestPosition 7 (some .int) :: ((wsX8_bestPosition_r1 ++ (wsX8_bestPosition_r2 ++ (wsX8_bestPosition_r3 ++ (wsX8_bestPosition_r4 ++ (wsX8_bestPosition_r5 ++ wsX8_bestPosition_r6))))) ++ wsX80 ++ wsX70 ++ wsX60 ++ wsX00 ++ wsX30 ++ wsX40 ++ (vx_atS RX8 326 "java/lang/IndexOutOfBoundsException" ["java/lang/RuntimeException", "java/lang/Exception"]).filter goodWord ++ (vx_atM "java/lang/ArrayIndexOutOfBoundsException" ["java/lang/IndexOutOfBoundsException", "java/lang/RuntimeException", "java/lang/Exception"]).filter goodWord ++ (vx_atS RX8 146 "java/util/NoSuchElementException" ["java/lang/RuntimeException", "java/lang/Exception"]).filter goodWord)
def wsX8_searchFrom_r1 : List Cond := [Cond.fieldLink RX8 372 "TunnelRing$Search" "rings" "I", Cond.fieldLink RX8 271 "TunnelRing$Search" "least" "I", Cond.fieldLink RX8 260 "TunnelRing" "TO_SIDE" "[I", Cond.methodLink RX8 375 yX4_note, Cond.instanceMethod yX4_note, Cond.selects RX4 yX4_note yX4_note, Cond.initialized RX4, Cond.code yX4_note cX4_note 1 none, Cond.fieldLink RX4 45 "TunnelRing$Search" "least" "I", Cond.methodLink RX4 84 Lib.Math.min.name, Cond.static Lib.Math.min.name, Cond.initialized "java/lang/Math", Cond.code Lib.Math.min.name Lib.Math.min.code 2 (some .int), Cond.methodLink RX4 77 yX4_deviation, Cond.instanceMethod yX4_deviation, Cond.selects RX4 yX4_deviation yX4_deviation, Cond.code yX4_deviation cX4_deviation 1 (some .int), Cond.fieldLink RX4 12 "TunnelRing$Search" "gap" "LTunnelRing$Course;", Cond.fieldLink RX4 28 "TunnelRing$Course" "x" "I", Cond.methodLink RX4 68 Lib.Math.abs.name, Cond.static Lib.Math.abs.name, Cond.code Lib.Math.abs.name Lib.Math.abs.code 1 (some .int), Cond.fieldLink RX4 32 "TunnelRing$Course" "y" "I", Cond.methodLink RX8 378 yX4_atLeast]
def wsX8_searchFrom_r2 : List Cond := [Cond.instanceMethod yX4_atLeast, Cond.selects RX4 yX4_atLeast yX4_atLeast, Cond.code yX4_atLeast cX4_atLeast 7 (some .int), Cond.fieldLink RX4 41 "TunnelRing$Search" "rings" "I", Cond.fieldLink RX4 35 "TunnelRing$Course" "headingX" "I", Cond.fieldLink RX4 38 "TunnelRing$Course" "headingY" "I", Cond.fieldLink RX4 22 "TunnelRing$Search" "bendX" "[I", Cond.fieldLink RX4 25 "TunnelRing$Search" "bendY" "[I", Cond.fieldLink RX4 18 "TunnelRing$Search" "taper" "[I", Cond.methodLink RX4 87 Lib.Math.max.name, Cond.static Lib.Math.max.name, Cond.code Lib.Math.max.name Lib.Math.max.code 2 (some .int), Cond.methodLink RX8 263 yX8_fits, Cond.static yX8_fits, Cond.initialized RX8, Cond.code yX8_fits cX8_fits 2 (some .boolean), Cond.methodLink RX8 245 Lib.Math.abs.name, Cond.methodLink RX8 381 yX4_tryOut, Cond.instanceMethod yX4_tryOut, Cond.selects RX4 yX4_tryOut yX4_tryOut, Cond.code yX4_tryOut cX4_tryOut 3 none, Cond.methodLink RX4 48 yX4_changeX, Cond.instanceMethod yX4_changeX, Cond.selects RX4 yX4_changeX yX4_changeX]
def wsX8_searchFrom_r3 : List Cond := [Cond.code yX4_changeX cX4_changeX 3 (some .int), Cond.methodLink RX4 52 yX4_changeY, Cond.instanceMethod yX4_changeY, Cond.selects RX4 yX4_changeY yX4_changeY, Cond.code yX4_changeY cX4_changeY 3 (some .int), Cond.methodLink RX4 55 yX0_bend, Cond.instanceMethod yX0_bend, Cond.selects RX0 yX0_bend yX0_bend, Cond.initialized RX0, Cond.code yX0_bend cX0_bend 3 none, Cond.fieldLink RX0 16 "TunnelRing$Course" "headingX" "I", Cond.fieldLink RX0 19 "TunnelRing$Course" "headingY" "I", Cond.fieldLink RX0 7 "TunnelRing$Course" "x" "I", Cond.fieldLink RX0 13 "TunnelRing$Course" "y" "I", Cond.methodLink RX8 267 yX8_searchFrom, Cond.static yX8_searchFrom, Cond.methodLink RX8 384 yX4_takeBack, Cond.instanceMethod yX4_takeBack, Cond.selects RX4 yX4_takeBack yX4_takeBack, Cond.code yX4_takeBack cX4_takeBack 3 none, Cond.methodLink RX4 59 yX0_unbend, Cond.instanceMethod yX0_unbend, Cond.selects RX0 yX0_unbend yX0_unbend, Cond.code yX0_unbend cX0_unbend 3 none]
def wsX8_searchFrom : List Cond := .code yX8_searchFrom cX8_searchFrom 4 none :: ((wsX8_searchFrom_r1 ++ (wsX8_searchFrom_r2 ++ wsX8_searchFrom_r3)) ++ wsX40 ++ wsX00 ++ (vx_atM "java/lang/ArrayIndexOutOfBoundsException" ["java/lang/IndexOutOfBoundsException", "java/lang/RuntimeException", "java/lang/Exception"]).filter goodWord)
def wsX8_leastDeviation_r1 : List Cond := [Cond.fieldLink RX8 47 "TunnelRing" "search" "LTunnelRing$Search;", Cond.fieldLink RX8 40 "TunnelRing" "tube" "LTunnelRing$Tube;", Cond.fieldLink RX8 271 "TunnelRing$Search" "least" "I", Cond.methodLink RX8 126 yX8_checkStack, Cond.static yX8_checkStack, Cond.initialized RX8, Cond.code yX8_checkStack cX8_checkStack 1 none, Cond.classLink RX8 322 "java/lang/IndexOutOfBoundsException", Cond.initialized "java/lang/IndexOutOfBoundsException", Cond.methodLink RX8 78 yX8_checkRange, Cond.static yX8_checkRange, Cond.code yX8_checkRange cX8_checkRange 3 none, Cond.classLink RX8 112 "java/lang/IllegalArgumentException", Cond.initialized "java/lang/IllegalArgumentException", Cond.methodLink RX8 151 yX8_checkRings, Cond.instanceMethod yX8_checkRings, Cond.selects RX8 yX8_checkRings yX8_checkRings, Cond.code yX8_checkRings cX8_checkRings 3 none, Cond.classLink RX8 142 "java/util/NoSuchElementException", Cond.initialized "java/util/NoSuchElementException", Cond.fieldLink RX8 33 "TunnelRing" "yard" "LTunnelRing$Yard;", Cond.fieldLink RX8 138 "TunnelRing$Yard" "height" "[I", Cond.methodLink RX8 250 yX8_prepareSearch, Cond.instanceMethod yX8_prepareSearch]
def wsX8_leastDeviation_r2 : List Cond := [Cond.selects RX8 yX8_prepareSearch yX8_prepareSearch, Cond.code yX8_prepareSearch cX8_prepareSearch 6 none, Cond.fieldLink RX8 178 "TunnelRing$Tube" "laid" "I", Cond.fieldLink RX8 363 "TunnelRing$Tube" "end" "LTunnelRing$Course;", Cond.fieldLink RX8 54 "TunnelRing" "followed" "LTunnelRing$Course;", Cond.fieldLink RX8 19 "TunnelRing" "plan" "LTunnelRing$Plan;", Cond.methodLink RX8 242 yX8_followPlan, Cond.instanceMethod yX8_followPlan, Cond.selects RX8 yX8_followPlan yX8_followPlan, Cond.code yX8_followPlan cX8_followPlan 3 none, Cond.methodLink RX8 301 yX0_restart, Cond.instanceMethod yX0_restart, Cond.selects RX0 yX0_restart yX0_restart, Cond.initialized RX0, Cond.code yX0_restart cX0_restart 1 none, Cond.fieldLink RX0 7 "TunnelRing$Course" "x" "I", Cond.fieldLink RX0 13 "TunnelRing$Course" "y" "I", Cond.fieldLink RX0 16 "TunnelRing$Course" "headingX" "I", Cond.fieldLink RX0 19 "TunnelRing$Course" "headingY" "I", Cond.methodLink RX8 354 yX3_sideBend, Cond.instanceMethod yX3_sideBend, Cond.selects RX3 yX3_sideBend yX3_sideBend, Cond.initialized RX3, Cond.code yX3_sideBend cX3_sideBend 2 (some .int)]
def wsX8_leastDeviation_r3 : List Cond := [Cond.fieldLink RX3 18 "TunnelRing$Plan" "planned" "I", Cond.fieldLink RX3 9 "TunnelRing$Plan" "bendX" "[I", Cond.methodLink RX8 357 yX3_upBend, Cond.instanceMethod yX3_upBend, Cond.selects RX3 yX3_upBend yX3_upBend, Cond.code yX3_upBend cX3_upBend 2 (some .int), Cond.fieldLink RX3 15 "TunnelRing$Plan" "bendY" "[I", Cond.methodLink RX8 360 yX0_bend, Cond.instanceMethod yX0_bend, Cond.selects RX0 yX0_bend yX0_bend, Cond.code yX0_bend cX0_bend 3 none, Cond.methodLink RX8 366 yX4_restart, Cond.instanceMethod yX4_restart, Cond.selects RX4 yX4_restart yX4_restart, Cond.initialized RX4, Cond.code yX4_restart cX4_restart 3 none, Cond.fieldLink RX4 12 "TunnelRing$Search" "gap" "LTunnelRing$Course;", Cond.fieldLink RX4 28 "TunnelRing$Course" "x" "I", Cond.fieldLink RX4 32 "TunnelRing$Course" "y" "I", Cond.fieldLink RX4 35 "TunnelRing$Course" "headingX" "I", Cond.fieldLink RX4 38 "TunnelRing$Course" "headingY" "I", Cond.fieldLink RX4 41 "TunnelRing$Search" "rings" "I", Cond.constant RX4 44 (2147483647), Cond.fieldLink RX4 45 "TunnelRing$Search" "least" "I"]
def wsX8_leastDeviation_r4 : List Cond := [Cond.methodLink RX8 147 yX7_taperIn, Cond.instanceMethod yX7_taperIn, Cond.selects RX7 yX7_taperIn yX7_taperIn, Cond.initialized RX7, Cond.code yX7_taperIn cX7_taperIn 3 (some .int), Cond.fieldLink RX7 15 "TunnelRing$Yard" "taper" "[I", Cond.methodLink RX8 369 yX4_add, Cond.instanceMethod yX4_add, Cond.selects RX4 yX4_add yX4_add, Cond.code yX4_add cX4_add 4 none, Cond.fieldLink RX4 18 "TunnelRing$Search" "taper" "[I", Cond.fieldLink RX4 22 "TunnelRing$Search" "bendX" "[I", Cond.fieldLink RX4 25 "TunnelRing$Search" "bendY" "[I", Cond.methodLink RX8 256 yX6_lastPosition, Cond.instanceMethod yX6_lastPosition, Cond.selects RX6 yX6_lastPosition yX6_lastPosition, Cond.initialized RX6, Cond.code yX6_lastPosition cX6_lastPosition 1 (some .int), Cond.fieldLink RX6 31 "TunnelRing$Tube" "laid" "I", Cond.fieldLink RX6 9 "TunnelRing$Tube" "position" "[I", Cond.methodLink RX8 267 yX8_searchFrom, Cond.static yX8_searchFrom, Cond.code yX8_searchFrom cX8_searchFrom 4 none, Cond.fieldLink RX8 372 "TunnelRing$Search" "rings" "I"]
def wsX8_leastDeviation_r5 : List Cond := [Cond.fieldLink RX8 260 "TunnelRing" "TO_SIDE" "[I", Cond.methodLink RX8 375 yX4_note, Cond.instanceMethod yX4_note, Cond.selects RX4 yX4_note yX4_note, Cond.code yX4_note cX4_note 1 none, Cond.methodLink RX4 84 Lib.Math.min.name, Cond.static Lib.Math.min.name, Cond.initialized "java/lang/Math", Cond.code Lib.Math.min.name Lib.Math.min.code 2 (some .int), Cond.methodLink RX4 77 yX4_deviation, Cond.instanceMethod yX4_deviation, Cond.selects RX4 yX4_deviation yX4_deviation, Cond.code yX4_deviation cX4_deviation 1 (some .int), Cond.methodLink RX4 68 Lib.Math.abs.name, Cond.static Lib.Math.abs.name, Cond.code Lib.Math.abs.name Lib.Math.abs.code 1 (some .int), Cond.methodLink RX8 378 yX4_atLeast, Cond.instanceMethod yX4_atLeast, Cond.selects RX4 yX4_atLeast yX4_atLeast, Cond.code yX4_atLeast cX4_atLeast 7 (some .int), Cond.methodLink RX4 87 Lib.Math.max.name, Cond.static Lib.Math.max.name, Cond.code Lib.Math.max.name Lib.Math.max.code 2 (some .int), Cond.methodLink RX8 263 yX8_fits]
def wsX8_leastDeviation_r6 : List Cond := [Cond.static yX8_fits, Cond.code yX8_fits cX8_fits 2 (some .boolean), Cond.methodLink RX8 245 Lib.Math.abs.name, Cond.methodLink RX8 381 yX4_tryOut, Cond.instanceMethod yX4_tryOut, Cond.selects RX4 yX4_tryOut yX4_tryOut, Cond.code yX4_tryOut cX4_tryOut 3 none, Cond.methodLink RX4 48 yX4_changeX, Cond.instanceMethod yX4_changeX, Cond.selects RX4 yX4_changeX yX4_changeX, Cond.code yX4_changeX cX4_changeX 3 (some .int), Cond.methodLink RX4 52 yX4_changeY, Cond.instanceMethod yX4_changeY, Cond.selects RX4 yX4_changeY yX4_changeY, Cond.code yX4_changeY cX4_changeY 3 (some .int), Cond.methodLink RX4 55 yX0_bend, Cond.methodLink RX8 384 yX4_takeBack, Cond.instanceMethod yX4_takeBack, Cond.selects RX4 yX4_takeBack yX4_takeBack, Cond.code yX4_takeBack cX4_takeBack 3 none, Cond.methodLink RX4 59 yX0_unbend, Cond.instanceMethod yX0_unbend, Cond.selects RX0 yX0_unbend yX0_unbend, Cond.code yX0_unbend cX0_unbend 3 none]
def wsX8_leastDeviation : List Cond := .code yX8_leastDeviation cX8_leastDeviation 3 (some .int) :: ((wsX8_leastDeviation_r1 ++ (wsX8_leastDeviation_r2 ++ (wsX8_leastDeviation_r3 ++ (wsX8_leastDeviation_r4 ++ (wsX8_leastDeviation_r5 ++ wsX8_leastDeviation_r6))))) ++ wsX80 ++ wsX40 ++ wsX70 ++ wsX60 ++ wsX00 ++ wsX30 ++ (vx_atS RX8 326 "java/lang/IndexOutOfBoundsException" ["java/lang/RuntimeException", "java/lang/Exception"]).filter goodWord ++ (vx_atS RX8 116 "java/lang/IllegalArgumentException" ["java/lang/RuntimeException", "java/lang/Exception"]).filter goodWord ++ (vx_atM "java/lang/ArrayIndexOutOfBoundsException" ["java/lang/IndexOutOfBoundsException", "java/lang/RuntimeException", "java/lang/Exception"]).filter goodWord ++ (vx_atS RX8 146 "java/util/NoSuchElementException" ["java/lang/RuntimeException", "java/lang/Exception"]).filter goodWord)
def wsX8_tryAllFrom_r1 : List Cond := [Cond.fieldLink RX8 372 "TunnelRing$Search" "rings" "I", Cond.fieldLink RX8 260 "TunnelRing" "TO_SIDE" "[I", Cond.methodLink RX8 375 yX4_note, Cond.instanceMethod yX4_note, Cond.selects RX4 yX4_note yX4_note, Cond.initialized RX4, Cond.code yX4_note cX4_note 1 none, Cond.fieldLink RX4 45 "TunnelRing$Search" "least" "I", Cond.methodLink RX4 84 Lib.Math.min.name, Cond.static Lib.Math.min.name, Cond.initialized "java/lang/Math", Cond.code Lib.Math.min.name Lib.Math.min.code 2 (some .int), Cond.methodLink RX4 77 yX4_deviation, Cond.instanceMethod yX4_deviation, Cond.selects RX4 yX4_deviation yX4_deviation, Cond.code yX4_deviation cX4_deviation 1 (some .int), Cond.fieldLink RX4 12 "TunnelRing$Search" "gap" "LTunnelRing$Course;", Cond.fieldLink RX4 28 "TunnelRing$Course" "x" "I", Cond.methodLink RX4 68 Lib.Math.abs.name, Cond.static Lib.Math.abs.name, Cond.code Lib.Math.abs.name Lib.Math.abs.code 1 (some .int), Cond.fieldLink RX4 32 "TunnelRing$Course" "y" "I", Cond.methodLink RX8 263 yX8_fits, Cond.static yX8_fits]
def wsX8_tryAllFrom_r2 : List Cond := [Cond.initialized RX8, Cond.code yX8_fits cX8_fits 2 (some .boolean), Cond.methodLink RX8 245 Lib.Math.abs.name, Cond.methodLink RX8 381 yX4_tryOut, Cond.instanceMethod yX4_tryOut, Cond.selects RX4 yX4_tryOut yX4_tryOut, Cond.code yX4_tryOut cX4_tryOut 3 none, Cond.methodLink RX4 48 yX4_changeX, Cond.instanceMethod yX4_changeX, Cond.selects RX4 yX4_changeX yX4_changeX, Cond.code yX4_changeX cX4_changeX 3 (some .int), Cond.fieldLink RX4 18 "TunnelRing$Search" "taper" "[I", Cond.fieldLink RX4 22 "TunnelRing$Search" "bendX" "[I", Cond.methodLink RX4 52 yX4_changeY, Cond.instanceMethod yX4_changeY, Cond.selects RX4 yX4_changeY yX4_changeY, Cond.code yX4_changeY cX4_changeY 3 (some .int), Cond.fieldLink RX4 25 "TunnelRing$Search" "bendY" "[I", Cond.methodLink RX4 55 yX0_bend, Cond.instanceMethod yX0_bend, Cond.selects RX0 yX0_bend yX0_bend, Cond.initialized RX0, Cond.code yX0_bend cX0_bend 3 none, Cond.fieldLink RX0 16 "TunnelRing$Course" "headingX" "I"]
def wsX8_tryAllFrom_r3 : List Cond := [Cond.fieldLink RX0 19 "TunnelRing$Course" "headingY" "I", Cond.fieldLink RX0 7 "TunnelRing$Course" "x" "I", Cond.fieldLink RX0 13 "TunnelRing$Course" "y" "I", Cond.methodLink RX8 274 yX8_tryAllFrom, Cond.static yX8_tryAllFrom, Cond.methodLink RX8 384 yX4_takeBack, Cond.instanceMethod yX4_takeBack, Cond.selects RX4 yX4_takeBack yX4_takeBack, Cond.code yX4_takeBack cX4_takeBack 3 none, Cond.methodLink RX4 59 yX0_unbend, Cond.instanceMethod yX0_unbend, Cond.selects RX0 yX0_unbend yX0_unbend, Cond.code yX0_unbend cX0_unbend 3 none]
def wsX8_tryAllFrom : List Cond := .code yX8_tryAllFrom cX8_tryAllFrom 4 none :: ((wsX8_tryAllFrom_r1 ++ (wsX8_tryAllFrom_r2 ++ wsX8_tryAllFrom_r3)) ++ wsX40 ++ wsX00 ++ (vx_atM "java/lang/ArrayIndexOutOfBoundsException" ["java/lang/IndexOutOfBoundsException", "java/lang/RuntimeException", "java/lang/Exception"]).filter goodWord)
def wsX8_leastByTrying_r1 : List Cond := [Cond.fieldLink RX8 47 "TunnelRing" "search" "LTunnelRing$Search;", Cond.fieldLink RX8 40 "TunnelRing" "tube" "LTunnelRing$Tube;", Cond.fieldLink RX8 271 "TunnelRing$Search" "least" "I", Cond.methodLink RX8 126 yX8_checkStack, Cond.static yX8_checkStack, Cond.initialized RX8, Cond.code yX8_checkStack cX8_checkStack 1 none, Cond.classLink RX8 322 "java/lang/IndexOutOfBoundsException", Cond.initialized "java/lang/IndexOutOfBoundsException", Cond.methodLink RX8 78 yX8_checkRange, Cond.static yX8_checkRange, Cond.code yX8_checkRange cX8_checkRange 3 none, Cond.classLink RX8 112 "java/lang/IllegalArgumentException", Cond.initialized "java/lang/IllegalArgumentException", Cond.methodLink RX8 151 yX8_checkRings, Cond.instanceMethod yX8_checkRings, Cond.selects RX8 yX8_checkRings yX8_checkRings, Cond.code yX8_checkRings cX8_checkRings 3 none, Cond.classLink RX8 142 "java/util/NoSuchElementException", Cond.initialized "java/util/NoSuchElementException", Cond.fieldLink RX8 33 "TunnelRing" "yard" "LTunnelRing$Yard;", Cond.fieldLink RX8 138 "TunnelRing$Yard" "height" "[I", Cond.methodLink RX8 250 yX8_prepareSearch, Cond.instanceMethod yX8_prepareSearch]
def wsX8_leastByTrying_r2 : List Cond := [Cond.selects RX8 yX8_prepareSearch yX8_prepareSearch, Cond.code yX8_prepareSearch cX8_prepareSearch 6 none, Cond.fieldLink RX8 178 "TunnelRing$Tube" "laid" "I", Cond.fieldLink RX8 363 "TunnelRing$Tube" "end" "LTunnelRing$Course;", Cond.fieldLink RX8 54 "TunnelRing" "followed" "LTunnelRing$Course;", Cond.fieldLink RX8 19 "TunnelRing" "plan" "LTunnelRing$Plan;", Cond.methodLink RX8 242 yX8_followPlan, Cond.instanceMethod yX8_followPlan, Cond.selects RX8 yX8_followPlan yX8_followPlan, Cond.code yX8_followPlan cX8_followPlan 3 none, Cond.methodLink RX8 301 yX0_restart, Cond.instanceMethod yX0_restart, Cond.selects RX0 yX0_restart yX0_restart, Cond.initialized RX0, Cond.code yX0_restart cX0_restart 1 none, Cond.fieldLink RX0 7 "TunnelRing$Course" "x" "I", Cond.fieldLink RX0 13 "TunnelRing$Course" "y" "I", Cond.fieldLink RX0 16 "TunnelRing$Course" "headingX" "I", Cond.fieldLink RX0 19 "TunnelRing$Course" "headingY" "I", Cond.methodLink RX8 354 yX3_sideBend, Cond.instanceMethod yX3_sideBend, Cond.selects RX3 yX3_sideBend yX3_sideBend, Cond.initialized RX3, Cond.code yX3_sideBend cX3_sideBend 2 (some .int)]
def wsX8_leastByTrying_r3 : List Cond := [Cond.fieldLink RX3 18 "TunnelRing$Plan" "planned" "I", Cond.fieldLink RX3 9 "TunnelRing$Plan" "bendX" "[I", Cond.methodLink RX8 357 yX3_upBend, Cond.instanceMethod yX3_upBend, Cond.selects RX3 yX3_upBend yX3_upBend, Cond.code yX3_upBend cX3_upBend 2 (some .int), Cond.fieldLink RX3 15 "TunnelRing$Plan" "bendY" "[I", Cond.methodLink RX8 360 yX0_bend, Cond.instanceMethod yX0_bend, Cond.selects RX0 yX0_bend yX0_bend, Cond.code yX0_bend cX0_bend 3 none, Cond.methodLink RX8 366 yX4_restart, Cond.instanceMethod yX4_restart, Cond.selects RX4 yX4_restart yX4_restart, Cond.initialized RX4, Cond.code yX4_restart cX4_restart 3 none, Cond.fieldLink RX4 12 "TunnelRing$Search" "gap" "LTunnelRing$Course;", Cond.fieldLink RX4 28 "TunnelRing$Course" "x" "I", Cond.fieldLink RX4 32 "TunnelRing$Course" "y" "I", Cond.fieldLink RX4 35 "TunnelRing$Course" "headingX" "I", Cond.fieldLink RX4 38 "TunnelRing$Course" "headingY" "I", Cond.fieldLink RX4 41 "TunnelRing$Search" "rings" "I", Cond.constant RX4 44 (2147483647), Cond.fieldLink RX4 45 "TunnelRing$Search" "least" "I"]
def wsX8_leastByTrying_r4 : List Cond := [Cond.methodLink RX8 147 yX7_taperIn, Cond.instanceMethod yX7_taperIn, Cond.selects RX7 yX7_taperIn yX7_taperIn, Cond.initialized RX7, Cond.code yX7_taperIn cX7_taperIn 3 (some .int), Cond.fieldLink RX7 15 "TunnelRing$Yard" "taper" "[I", Cond.methodLink RX8 369 yX4_add, Cond.instanceMethod yX4_add, Cond.selects RX4 yX4_add yX4_add, Cond.code yX4_add cX4_add 4 none, Cond.fieldLink RX4 18 "TunnelRing$Search" "taper" "[I", Cond.fieldLink RX4 22 "TunnelRing$Search" "bendX" "[I", Cond.fieldLink RX4 25 "TunnelRing$Search" "bendY" "[I", Cond.methodLink RX8 256 yX6_lastPosition, Cond.instanceMethod yX6_lastPosition, Cond.selects RX6 yX6_lastPosition yX6_lastPosition, Cond.initialized RX6, Cond.code yX6_lastPosition cX6_lastPosition 1 (some .int), Cond.fieldLink RX6 31 "TunnelRing$Tube" "laid" "I", Cond.fieldLink RX6 9 "TunnelRing$Tube" "position" "[I", Cond.methodLink RX8 274 yX8_tryAllFrom, Cond.static yX8_tryAllFrom, Cond.code yX8_tryAllFrom cX8_tryAllFrom 4 none, Cond.fieldLink RX8 372 "TunnelRing$Search" "rings" "I"]
def wsX8_leastByTrying_r5 : List Cond := [Cond.fieldLink RX8 260 "TunnelRing" "TO_SIDE" "[I", Cond.methodLink RX8 375 yX4_note, Cond.instanceMethod yX4_note, Cond.selects RX4 yX4_note yX4_note, Cond.code yX4_note cX4_note 1 none, Cond.methodLink RX4 84 Lib.Math.min.name, Cond.static Lib.Math.min.name, Cond.initialized "java/lang/Math", Cond.code Lib.Math.min.name Lib.Math.min.code 2 (some .int), Cond.methodLink RX4 77 yX4_deviation, Cond.instanceMethod yX4_deviation, Cond.selects RX4 yX4_deviation yX4_deviation, Cond.code yX4_deviation cX4_deviation 1 (some .int), Cond.methodLink RX4 68 Lib.Math.abs.name, Cond.static Lib.Math.abs.name, Cond.code Lib.Math.abs.name Lib.Math.abs.code 1 (some .int), Cond.methodLink RX8 263 yX8_fits, Cond.static yX8_fits, Cond.code yX8_fits cX8_fits 2 (some .boolean), Cond.methodLink RX8 245 Lib.Math.abs.name, Cond.methodLink RX8 381 yX4_tryOut, Cond.instanceMethod yX4_tryOut, Cond.selects RX4 yX4_tryOut yX4_tryOut, Cond.code yX4_tryOut cX4_tryOut 3 none]
def wsX8_leastByTrying_r6 : List Cond := [Cond.methodLink RX4 48 yX4_changeX, Cond.instanceMethod yX4_changeX, Cond.selects RX4 yX4_changeX yX4_changeX, Cond.code yX4_changeX cX4_changeX 3 (some .int), Cond.methodLink RX4 52 yX4_changeY, Cond.instanceMethod yX4_changeY, Cond.selects RX4 yX4_changeY yX4_changeY, Cond.code yX4_changeY cX4_changeY 3 (some .int), Cond.methodLink RX4 55 yX0_bend, Cond.methodLink RX8 384 yX4_takeBack, Cond.instanceMethod yX4_takeBack, Cond.selects RX4 yX4_takeBack yX4_takeBack, Cond.code yX4_takeBack cX4_takeBack 3 none, Cond.methodLink RX4 59 yX0_unbend, Cond.instanceMethod yX0_unbend, Cond.selects RX0 yX0_unbend yX0_unbend, Cond.code yX0_unbend cX0_unbend 3 none]
def wsX8_leastByTrying : List Cond := .code yX8_leastByTrying cX8_leastByTrying 3 (some .int) :: ((wsX8_leastByTrying_r1 ++ (wsX8_leastByTrying_r2 ++ (wsX8_leastByTrying_r3 ++ (wsX8_leastByTrying_r4 ++ (wsX8_leastByTrying_r5 ++ wsX8_leastByTrying_r6))))) ++ wsX80 ++ wsX40 ++ wsX70 ++ wsX60 ++ wsX00 ++ wsX30 ++ (vx_atS RX8 326 "java/lang/IndexOutOfBoundsException" ["java/lang/RuntimeException", "java/lang/Exception"]).filter goodWord ++ (vx_atS RX8 116 "java/lang/IllegalArgumentException" ["java/lang/RuntimeException", "java/lang/Exception"]).filter goodWord ++ (vx_atM "java/lang/ArrayIndexOutOfBoundsException" ["java/lang/IndexOutOfBoundsException", "java/lang/RuntimeException", "java/lang/Exception"]).filter goodWord ++ (vx_atS RX8 146 "java/util/NoSuchElementException" ["java/lang/RuntimeException", "java/lang/Exception"]).filter goodWord)
def wsX8_sinkingAt : List Cond := .code yX8_sinkingAt cX8_sinkingAt 2 (some .int) :: ([.fieldLink RX8 10 "TunnelRing" "ground" "LTunnelRing$Ground;", .methodLink RX8 101 yX8_checkGround, .instanceMethod yX8_checkGround, .selects RX8 yX8_checkGround yX8_checkGround, .initialized RX8, .code yX8_checkGround cX8_checkGround 2 none, .classLink RX8 322 "java/lang/IndexOutOfBoundsException", .initialized "java/lang/IndexOutOfBoundsException", .methodLink RX8 181 yX1_isKnown, .instanceMethod yX1_isKnown, .selects RX1 yX1_isKnown yX1_isKnown, .initialized RX1, .code yX1_isKnown cX1_isKnown 2 (some .boolean), .fieldLink RX1 21 "TunnelRing$Ground" "known" "I", .methodLink RX8 277 yX1_sinkingOver, .instanceMethod yX1_sinkingOver, .selects RX1 yX1_sinkingOver yX1_sinkingOver, .code yX1_sinkingOver cX1_sinkingOver 2 (some .int), .fieldLink RX1 18 "TunnelRing$Ground" "sinking" "[I", .methodLink RX1 31 yX1_isKnown] ++ wsX80 ++ wsX10 ++ (vx_atS RX8 326 "java/lang/IndexOutOfBoundsException" ["java/lang/RuntimeException", "java/lang/Exception"]).filter goodWord ++ (vx_atM "java/lang/ArrayIndexOutOfBoundsException" ["java/lang/IndexOutOfBoundsException", "java/lang/RuntimeException", "java/lang/Exception"]).filter goodWord)
def wsX8_checkHouse : List Cond := .code yX8_checkHouse cX8_checkHouse 2 none :: ([.classLink RX8 322 "java/lang/IndexOutOfBoundsException", .initialized "java/lang/IndexOutOfBoundsException", .fieldLink RX8 26 "TunnelRing" "houses" "LTunnelRing$Houses;", .fieldLink RX8 117 "TunnelRing$Houses" "built" "I"] ++ wsX80 ++ wsX20 ++ (vx_atS RX8 326 "java/lang/IndexOutOfBoundsException" ["java/lang/RuntimeException", "java/lang/Exception"]).filter goodWord)
def wsX8_greatestSinking : List Cond := .code yX8_greatestSinking cX8_greatestSinking 4 (some .int) :: ([.fieldLink RX8 26 "TunnelRing" "houses" "LTunnelRing$Houses;", .fieldLink RX8 387 "TunnelRing$Houses" "first" "[I", .fieldLink RX8 390 "TunnelRing$Houses" "last" "[I", .fieldLink RX8 10 "TunnelRing" "ground" "LTunnelRing$Ground;", .methodLink RX8 345 Lib.Math.max.name, .static Lib.Math.max.name, .initialized "java/lang/Math", .code Lib.Math.max.name Lib.Math.max.code 2 (some .int), .methodLink RX8 277 yX1_sinkingOver, .instanceMethod yX1_sinkingOver, .selects RX1 yX1_sinkingOver yX1_sinkingOver, .initialized RX1, .code yX1_sinkingOver cX1_sinkingOver 2 (some .int), .fieldLink RX1 18 "TunnelRing$Ground" "sinking" "[I", .methodLink RX1 31 yX1_isKnown, .instanceMethod yX1_isKnown, .selects RX1 yX1_isKnown yX1_isKnown, .code yX1_isKnown cX1_isKnown 2 (some .boolean), .fieldLink RX1 21 "TunnelRing$Ground" "known" "I"] ++ wsX80 ++ wsX20 ++ wsX10 ++ (vx_atM "java/lang/ArrayIndexOutOfBoundsException" ["java/lang/IndexOutOfBoundsException", "java/lang/RuntimeException", "java/lang/Exception"]).filter goodWord)
def wsX8_sinkingOf_r1 : List Cond := [Cond.methodLink RX8 280 yX8_checkHouse, Cond.instanceMethod yX8_checkHouse, Cond.selects RX8 yX8_checkHouse yX8_checkHouse, Cond.initialized RX8, Cond.code yX8_checkHouse cX8_checkHouse 2 none, Cond.classLink RX8 322 "java/lang/IndexOutOfBoundsException", Cond.initialized "java/lang/IndexOutOfBoundsException", Cond.fieldLink RX8 26 "TunnelRing" "houses" "LTunnelRing$Houses;", Cond.fieldLink RX8 117 "TunnelRing$Houses" "built" "I", Cond.methodLink RX8 283 yX8_greatestSinking, Cond.instanceMethod yX8_greatestSinking, Cond.selects RX8 yX8_greatestSinking yX8_greatestSinking, Cond.code yX8_greatestSinking cX8_greatestSinking 4 (some .int), Cond.fieldLink RX8 387 "TunnelRing$Houses" "first" "[I", Cond.fieldLink RX8 390 "TunnelRing$Houses" "last" "[I", Cond.fieldLink RX8 10 "TunnelRing" "ground" "LTunnelRing$Ground;", Cond.methodLink RX8 345 Lib.Math.max.name, Cond.static Lib.Math.max.name, Cond.initialized "java/lang/Math", Cond.code Lib.Math.max.name Lib.Math.max.code 2 (some .int), Cond.methodLink RX8 277 yX1_sinkingOver, Cond.instanceMethod yX1_sinkingOver, Cond.selects RX1 yX1_sinkingOver yX1_sinkingOver, Cond.initialized RX1]
def wsX8_sinkingOf_r2 : List Cond := [Cond.code yX1_sinkingOver cX1_sinkingOver 2 (some .int), Cond.fieldLink RX1 18 "TunnelRing$Ground" "sinking" "[I", Cond.methodLink RX1 31 yX1_isKnown, Cond.instanceMethod yX1_isKnown, Cond.selects RX1 yX1_isKnown yX1_isKnown, Cond.code yX1_isKnown cX1_isKnown 2 (some .boolean), Cond.fieldLink RX1 21 "TunnelRing$Ground" "known" "I"]
def wsX8_sinkingOf : List Cond := .code yX8_sinkingOf cX8_sinkingOf 2 (some .int) :: ((wsX8_sinkingOf_r1 ++ wsX8_sinkingOf_r2) ++ wsX80 ++ wsX20 ++ wsX10 ++ (vx_atS RX8 326 "java/lang/IndexOutOfBoundsException" ["java/lang/RuntimeException", "java/lang/Exception"]).filter goodWord ++ (vx_atM "java/lang/ArrayIndexOutOfBoundsException" ["java/lang/IndexOutOfBoundsException", "java/lang/RuntimeException", "java/lang/Exception"]).filter goodWord)
def wsX8_leastSinking : List Cond := .code yX8_leastSinking cX8_leastSinking 4 (some .int) :: ([.constant RX8 259 (2147483647), .fieldLink RX8 26 "TunnelRing" "houses" "LTunnelRing$Houses;", .fieldLink RX8 387 "TunnelRing$Houses" "first" "[I", .fieldLink RX8 390 "TunnelRing$Houses" "last" "[I", .fieldLink RX8 10 "TunnelRing" "ground" "LTunnelRing$Ground;", .methodLink RX8 307 Lib.Math.min.name, .static Lib.Math.min.name, .initialized "java/lang/Math", .code Lib.Math.min.name Lib.Math.min.code 2 (some .int), .methodLink RX8 277 yX1_sinkingOver, .instanceMethod yX1_sinkingOver, .selects RX1 yX1_sinkingOver yX1_sinkingOver, .initialized RX1, .code yX1_sinkingOver cX1_sinkingOver 2 (some .int), .fieldLink RX1 18 "TunnelRing$Ground" "sinking" "[I", .methodLink RX1 31 yX1_isKnown, .instanceMethod yX1_isKnown, .selects RX1 yX1_isKnown yX1_isKnown, .code yX1_isKnown cX1_isKnown 2 (some .boolean), .fieldLink RX1 21 "TunnelRing$Ground" "known" "I"] ++ wsX80 ++ wsX20 ++ wsX10 ++ (vx_atM "java/lang/ArrayIndexOutOfBoundsException" ["java/lang/IndexOutOfBoundsException", "java/lang/RuntimeException", "java/lang/Exception"]).filter goodWord)
def wsX8_tiltOf_r1 : List Cond := [Cond.methodLink RX8 280 yX8_checkHouse, Cond.instanceMethod yX8_checkHouse, Cond.selects RX8 yX8_checkHouse yX8_checkHouse, Cond.initialized RX8, Cond.code yX8_checkHouse cX8_checkHouse 2 none, Cond.classLink RX8 322 "java/lang/IndexOutOfBoundsException", Cond.initialized "java/lang/IndexOutOfBoundsException", Cond.fieldLink RX8 26 "TunnelRing" "houses" "LTunnelRing$Houses;", Cond.fieldLink RX8 117 "TunnelRing$Houses" "built" "I", Cond.methodLink RX8 283 yX8_greatestSinking, Cond.instanceMethod yX8_greatestSinking, Cond.selects RX8 yX8_greatestSinking yX8_greatestSinking, Cond.code yX8_greatestSinking cX8_greatestSinking 4 (some .int), Cond.fieldLink RX8 387 "TunnelRing$Houses" "first" "[I", Cond.fieldLink RX8 390 "TunnelRing$Houses" "last" "[I", Cond.fieldLink RX8 10 "TunnelRing" "ground" "LTunnelRing$Ground;", Cond.methodLink RX8 345 Lib.Math.max.name, Cond.static Lib.Math.max.name, Cond.initialized "java/lang/Math", Cond.code Lib.Math.max.name Lib.Math.max.code 2 (some .int), Cond.methodLink RX8 277 yX1_sinkingOver, Cond.instanceMethod yX1_sinkingOver, Cond.selects RX1 yX1_sinkingOver yX1_sinkingOver, Cond.initialized RX1]
def wsX8_tiltOf_r2 : List Cond := [Cond.code yX1_sinkingOver cX1_sinkingOver 2 (some .int), Cond.fieldLink RX1 18 "TunnelRing$Ground" "sinking" "[I", Cond.methodLink RX1 31 yX1_isKnown, Cond.instanceMethod yX1_isKnown, Cond.selects RX1 yX1_isKnown yX1_isKnown, Cond.code yX1_isKnown cX1_isKnown 2 (some .boolean), Cond.fieldLink RX1 21 "TunnelRing$Ground" "known" "I", Cond.methodLink RX8 286 yX8_leastSinking, Cond.instanceMethod yX8_leastSinking, Cond.selects RX8 yX8_leastSinking yX8_leastSinking, Cond.code yX8_leastSinking cX8_leastSinking 4 (some .int), Cond.constant RX8 259 (2147483647), Cond.methodLink RX8 307 Lib.Math.min.name, Cond.static Lib.Math.min.name, Cond.code Lib.Math.min.name Lib.Math.min.code 2 (some .int)]
def wsX8_tiltOf : List Cond := .code yX8_tiltOf cX8_tiltOf 2 (some .int) :: ((wsX8_tiltOf_r1 ++ wsX8_tiltOf_r2) ++ wsX80 ++ wsX20 ++ wsX10 ++ (vx_atS RX8 326 "java/lang/IndexOutOfBoundsException" ["java/lang/RuntimeException", "java/lang/Exception"]).filter goodWord ++ (vx_atM "java/lang/ArrayIndexOutOfBoundsException" ["java/lang/IndexOutOfBoundsException", "java/lang/RuntimeException", "java/lang/Exception"]).filter goodWord)
def wsX8_paymentDue_r1 : List Cond := [Cond.fieldLink RX8 26 "TunnelRing" "houses" "LTunnelRing$Houses;", Cond.fieldLink RX8 393 "TunnelRing$Houses" "limit" "[I", Cond.fieldLink RX8 396 "TunnelRing$Houses" "rate" "[I", Cond.fieldLink RX8 294 "TunnelRing$Houses" "paid" "[I", Cond.methodLink RX8 283 yX8_greatestSinking, Cond.instanceMethod yX8_greatestSinking, Cond.selects RX8 yX8_greatestSinking yX8_greatestSinking, Cond.initialized RX8, Cond.code yX8_greatestSinking cX8_greatestSinking 4 (some .int), Cond.fieldLink RX8 387 "TunnelRing$Houses" "first" "[I", Cond.fieldLink RX8 390 "TunnelRing$Houses" "last" "[I", Cond.fieldLink RX8 10 "TunnelRing" "ground" "LTunnelRing$Ground;", Cond.methodLink RX8 345 Lib.Math.max.name, Cond.static Lib.Math.max.name, Cond.initialized "java/lang/Math", Cond.code Lib.Math.max.name Lib.Math.max.code 2 (some .int), Cond.methodLink RX8 277 yX1_sinkingOver, Cond.instanceMethod yX1_sinkingOver, Cond.selects RX1 yX1_sinkingOver yX1_sinkingOver, Cond.initialized RX1, Cond.code yX1_sinkingOver cX1_sinkingOver 2 (some .int), Cond.fieldLink RX1 18 "TunnelRing$Ground" "sinking" "[I", Cond.methodLink RX1 31 yX1_isKnown, Cond.instanceMethod yX1_isKnown]
def wsX8_paymentDue_r2 : List Cond := [Cond.selects RX1 yX1_isKnown yX1_isKnown, Cond.code yX1_isKnown cX1_isKnown 2 (some .boolean), Cond.fieldLink RX1 21 "TunnelRing$Ground" "known" "I"]
def wsX8_paymentDue : List Cond := .code yX8_paymentDue cX8_paymentDue 3 (some .int) :: ((wsX8_paymentDue_r1 ++ wsX8_paymentDue_r2) ++ wsX80 ++ wsX20 ++ wsX10 ++ (vx_atM "java/lang/ArrayIndexOutOfBoundsException" ["java/lang/IndexOutOfBoundsException", "java/lang/RuntimeException", "java/lang/Exception"]).filter goodWord)
def wsX8_claimOf_r1 : List Cond := [Cond.methodLink RX8 280 yX8_checkHouse, Cond.instanceMethod yX8_checkHouse, Cond.selects RX8 yX8_checkHouse yX8_checkHouse, Cond.initialized RX8, Cond.code yX8_checkHouse cX8_checkHouse 2 none, Cond.classLink RX8 322 "java/lang/IndexOutOfBoundsException", Cond.initialized "java/lang/IndexOutOfBoundsException", Cond.fieldLink RX8 26 "TunnelRing" "houses" "LTunnelRing$Houses;", Cond.fieldLink RX8 117 "TunnelRing$Houses" "built" "I", Cond.methodLink RX8 289 yX8_paymentDue, Cond.instanceMethod yX8_paymentDue, Cond.selects RX8 yX8_paymentDue yX8_paymentDue, Cond.code yX8_paymentDue cX8_paymentDue 3 (some .int), Cond.fieldLink RX8 393 "TunnelRing$Houses" "limit" "[I", Cond.fieldLink RX8 396 "TunnelRing$Houses" "rate" "[I", Cond.fieldLink RX8 294 "TunnelRing$Houses" "paid" "[I", Cond.methodLink RX8 283 yX8_greatestSinking, Cond.instanceMethod yX8_greatestSinking, Cond.selects RX8 yX8_greatestSinking yX8_greatestSinking, Cond.code yX8_greatestSinking cX8_greatestSinking 4 (some .int), Cond.fieldLink RX8 387 "TunnelRing$Houses" "first" "[I", Cond.fieldLink RX8 390 "TunnelRing$Houses" "last" "[I", Cond.fieldLink RX8 10 "TunnelRing" "ground" "LTunnelRing$Ground;", Cond.methodLink RX8 345 Lib.Math.max.name]
def wsX8_claimOf_r2 : List Cond := [Cond.static Lib.Math.max.name, Cond.initialized "java/lang/Math", Cond.code Lib.Math.max.name Lib.Math.max.code 2 (some .int), Cond.methodLink RX8 277 yX1_sinkingOver, Cond.instanceMethod yX1_sinkingOver, Cond.selects RX1 yX1_sinkingOver yX1_sinkingOver, Cond.initialized RX1, Cond.code yX1_sinkingOver cX1_sinkingOver 2 (some .int), Cond.fieldLink RX1 18 "TunnelRing$Ground" "sinking" "[I", Cond.methodLink RX1 31 yX1_isKnown, Cond.instanceMethod yX1_isKnown, Cond.selects RX1 yX1_isKnown yX1_isKnown, Cond.code yX1_isKnown cX1_isKnown 2 (some .boolean), Cond.fieldLink RX1 21 "TunnelRing$Ground" "known" "I"]
def wsX8_claimOf : List Cond := .code yX8_claimOf cX8_claimOf 2 (some .int) :: ((wsX8_claimOf_r1 ++ wsX8_claimOf_r2) ++ wsX80 ++ wsX20 ++ wsX10 ++ (vx_atS RX8 326 "java/lang/IndexOutOfBoundsException" ["java/lang/RuntimeException", "java/lang/Exception"]).filter goodWord ++ (vx_atM "java/lang/ArrayIndexOutOfBoundsException" ["java/lang/IndexOutOfBoundsException", "java/lang/RuntimeException", "java/lang/Exception"]).filter goodWord)
def wsX8_claim_r1 : List Cond := [Cond.classLink RX8 196 "java/lang/UnsupportedOperationException", Cond.initialized "java/lang/UnsupportedOperationException", Cond.fieldLink RX8 26 "TunnelRing" "houses" "LTunnelRing$Houses;", Cond.fieldLink RX8 294 "TunnelRing$Houses" "paid" "[I", Cond.methodLink RX8 280 yX8_checkHouse, Cond.instanceMethod yX8_checkHouse, Cond.selects RX8 yX8_checkHouse yX8_checkHouse, Cond.initialized RX8, Cond.code yX8_checkHouse cX8_checkHouse 2 none, Cond.classLink RX8 322 "java/lang/IndexOutOfBoundsException", Cond.initialized "java/lang/IndexOutOfBoundsException", Cond.fieldLink RX8 117 "TunnelRing$Houses" "built" "I", Cond.methodLink RX8 289 yX8_paymentDue, Cond.instanceMethod yX8_paymentDue, Cond.selects RX8 yX8_paymentDue yX8_paymentDue, Cond.code yX8_paymentDue cX8_paymentDue 3 (some .int), Cond.fieldLink RX8 393 "TunnelRing$Houses" "limit" "[I", Cond.fieldLink RX8 396 "TunnelRing$Houses" "rate" "[I", Cond.methodLink RX8 283 yX8_greatestSinking, Cond.instanceMethod yX8_greatestSinking, Cond.selects RX8 yX8_greatestSinking yX8_greatestSinking, Cond.code yX8_greatestSinking cX8_greatestSinking 4 (some .int), Cond.fieldLink RX8 387 "TunnelRing$Houses" "first" "[I", Cond.fieldLink RX8 390 "TunnelRing$Houses" "last" "[I"]
def wsX8_claim_r2 : List Cond := [Cond.fieldLink RX8 10 "TunnelRing" "ground" "LTunnelRing$Ground;", Cond.methodLink RX8 345 Lib.Math.max.name, Cond.static Lib.Math.max.name, Cond.initialized "java/lang/Math", Cond.code Lib.Math.max.name Lib.Math.max.code 2 (some .int), Cond.methodLink RX8 277 yX1_sinkingOver, Cond.instanceMethod yX1_sinkingOver, Cond.selects RX1 yX1_sinkingOver yX1_sinkingOver, Cond.initialized RX1, Cond.code yX1_sinkingOver cX1_sinkingOver 2 (some .int), Cond.fieldLink RX1 18 "TunnelRing$Ground" "sinking" "[I", Cond.methodLink RX1 31 yX1_isKnown, Cond.instanceMethod yX1_isKnown, Cond.selects RX1 yX1_isKnown yX1_isKnown, Cond.code yX1_isKnown cX1_isKnown 2 (some .boolean), Cond.fieldLink RX1 21 "TunnelRing$Ground" "known" "I"]
def wsX8_claim : List Cond := .code yX8_claim cX8_claim 3 (some .int) :: ((wsX8_claim_r1 ++ wsX8_claim_r2) ++ wsX80 ++ wsX20 ++ wsX10 ++ (vx_atS RX8 200 "java/lang/UnsupportedOperationException" ["java/lang/RuntimeException", "java/lang/Exception"]).filter goodWord ++ (vx_atM "java/lang/ArrayIndexOutOfBoundsException" ["java/lang/IndexOutOfBoundsException", "java/lang/RuntimeException", "java/lang/Exception"]).filter goodWord ++ (vx_atS RX8 326 "java/lang/IndexOutOfBoundsException" ["java/lang/RuntimeException", "java/lang/Exception"]).filter goodWord)
def wsX8_paidTo : List Cond := .code yX8_paidTo cX8_paidTo 2 (some .int) :: ([.fieldLink RX8 26 "TunnelRing" "houses" "LTunnelRing$Houses;", .fieldLink RX8 294 "TunnelRing$Houses" "paid" "[I", .methodLink RX8 280 yX8_checkHouse, .instanceMethod yX8_checkHouse, .selects RX8 yX8_checkHouse yX8_checkHouse, .initialized RX8, .code yX8_checkHouse cX8_checkHouse 2 none, .classLink RX8 322 "java/lang/IndexOutOfBoundsException", .initialized "java/lang/IndexOutOfBoundsException", .fieldLink RX8 117 "TunnelRing$Houses" "built" "I"] ++ wsX80 ++ wsX20 ++ (vx_atM "java/lang/ArrayIndexOutOfBoundsException" ["java/lang/IndexOutOfBoundsException", "java/lang/RuntimeException", "java/lang/Exception"]).filter goodWord ++ (vx_atS RX8 326 "java/lang/IndexOutOfBoundsException" ["java/lang/RuntimeException", "java/lang/Exception"]).filter goodWord)
def wsX8_paidTotal : List Cond := .code yX8_paidTotal cX8_paidTotal 4 (some .long) :: ([.fieldLink RX8 26 "TunnelRing" "houses" "LTunnelRing$Houses;", .fieldLink RX8 117 "TunnelRing$Houses" "built" "I", .fieldLink RX8 294 "TunnelRing$Houses" "paid" "[I"] ++ wsX80 ++ wsX20 ++ (vx_atM "java/lang/ArrayIndexOutOfBoundsException" ["java/lang/IndexOutOfBoundsException", "java/lang/RuntimeException", "java/lang/Exception"]).filter goodWord)
def wsX8_worstHouse_r1 : List Cond := [Cond.classLink RX8 142 "java/util/NoSuchElementException", Cond.initialized "java/util/NoSuchElementException", Cond.fieldLink RX8 26 "TunnelRing" "houses" "LTunnelRing$Houses;", Cond.fieldLink RX8 117 "TunnelRing$Houses" "built" "I", Cond.methodLink RX8 283 yX8_greatestSinking, Cond.instanceMethod yX8_greatestSinking, Cond.selects RX8 yX8_greatestSinking yX8_greatestSinking, Cond.initialized RX8, Cond.code yX8_greatestSinking cX8_greatestSinking 4 (some .int), Cond.fieldLink RX8 387 "TunnelRing$Houses" "first" "[I", Cond.fieldLink RX8 390 "TunnelRing$Houses" "last" "[I", Cond.fieldLink RX8 10 "TunnelRing" "ground" "LTunnelRing$Ground;", Cond.methodLink RX8 345 Lib.Math.max.name, Cond.static Lib.Math.max.name, Cond.initialized "java/lang/Math", Cond.code Lib.Math.max.name Lib.Math.max.code 2 (some .int), Cond.methodLink RX8 277 yX1_sinkingOver, Cond.instanceMethod yX1_sinkingOver, Cond.selects RX1 yX1_sinkingOver yX1_sinkingOver, Cond.initialized RX1, Cond.code yX1_sinkingOver cX1_sinkingOver 2 (some .int), Cond.fieldLink RX1 18 "TunnelRing$Ground" "sinking" "[I", Cond.methodLink RX1 31 yX1_isKnown, Cond.instanceMethod yX1_isKnown]
def wsX8_worstHouse_r2 : List Cond := [Cond.selects RX1 yX1_isKnown yX1_isKnown, Cond.code yX1_isKnown cX1_isKnown 2 (some .boolean), Cond.fieldLink RX1 21 "TunnelRing$Ground" "known" "I"]
def wsX8_worstHouse : List Cond := .code yX8_worstHouse cX8_worstHouse 3 (some .int) :: ((wsX8_worstHouse_r1 ++ wsX8_worstHouse_r2) ++ wsX80 ++ wsX20 ++ wsX10 ++ (vx_atS RX8 146 "java/util/NoSuchElementException" ["java/lang/RuntimeException", "java/lang/Exception"]).filter goodWord ++ (vx_atM "java/lang/ArrayIndexOutOfBoundsException" ["java/lang/IndexOutOfBoundsException", "java/lang/RuntimeException", "java/lang/Exception"]).filter goodWord)
def wsX8_meanSinking : List Cond := .code yX8_meanSinking cX8_meanSinking 3 (some .double) :: ([.classLink RX8 168 "java/lang/ArithmeticException", .initialized "java/lang/ArithmeticException", .fieldLink RX8 40 "TunnelRing" "tube" "LTunnelRing$Tube;", .fieldLink RX8 178 "TunnelRing$Tube" "laid" "I", .fieldLink RX8 10 "TunnelRing" "ground" "LTunnelRing$Ground;", .methodLink RX8 277 yX1_sinkingOver, .instanceMethod yX1_sinkingOver, .selects RX1 yX1_sinkingOver yX1_sinkingOver, .initialized RX1, .code yX1_sinkingOver cX1_sinkingOver 2 (some .int), .fieldLink RX1 18 "TunnelRing$Ground" "sinking" "[I", .methodLink RX1 31 yX1_isKnown, .instanceMethod yX1_isKnown, .selects RX1 yX1_isKnown yX1_isKnown, .code yX1_isKnown cX1_isKnown 2 (some .boolean), .fieldLink RX1 21 "TunnelRing$Ground" "known" "I"] ++ wsX80 ++ wsX60 ++ wsX10 ++ (vx_atS RX8 172 "java/lang/ArithmeticException" ["java/lang/RuntimeException", "java/lang/Exception"]).filter goodWord ++ (vx_atM "java/lang/ArrayIndexOutOfBoundsException" ["java/lang/IndexOutOfBoundsException", "java/lang/RuntimeException", "java/lang/Exception"]).filter goodWord)
def wsX8_isConsistent_r1 : List Cond := [Cond.fieldLink RX8 54 "TunnelRing" "followed" "LTunnelRing$Course;", Cond.fieldLink RX8 40 "TunnelRing" "tube" "LTunnelRing$Tube;", Cond.fieldLink RX8 178 "TunnelRing$Tube" "laid" "I", Cond.fieldLink RX8 221 "TunnelRing$Tube" "position" "[I", Cond.fieldLink RX8 224 "TunnelRing$Tube" "taper" "[I", Cond.fieldLink RX8 236 "TunnelRing$Course" "x" "I", Cond.fieldLink RX8 227 "TunnelRing$Tube" "keptX" "[I", Cond.fieldLink RX8 239 "TunnelRing$Course" "y" "I", Cond.fieldLink RX8 230 "TunnelRing$Tube" "keptY" "[I", Cond.methodLink RX8 301 yX0_restart, Cond.instanceMethod yX0_restart, Cond.selects RX0 yX0_restart yX0_restart, Cond.initialized RX0, Cond.code yX0_restart cX0_restart 1 none, Cond.fieldLink RX0 7 "TunnelRing$Course" "x" "I", Cond.fieldLink RX0 13 "TunnelRing$Course" "y" "I", Cond.fieldLink RX0 16 "TunnelRing$Course" "headingX" "I", Cond.fieldLink RX0 19 "TunnelRing$Course" "headingY" "I", Cond.methodLink RX8 304 yX0_addRing, Cond.instanceMethod yX0_addRing, Cond.selects RX0 yX0_addRing yX0_addRing, Cond.code yX0_addRing cX0_addRing 3 none, Cond.methodLink RX0 31 yX0_bend, Cond.instanceMethod yX0_bend]
def wsX8_isConsistent_r2 : List Cond := [Cond.selects RX0 yX0_bend yX0_bend, Cond.code yX0_bend cX0_bend 3 none, Cond.methodLink RX8 263 yX8_fits, Cond.static yX8_fits, Cond.initialized RX8, Cond.code yX8_fits cX8_fits 2 (some .boolean), Cond.methodLink RX8 245 Lib.Math.abs.name, Cond.static Lib.Math.abs.name, Cond.initialized "java/lang/Math", Cond.code Lib.Math.abs.name Lib.Math.abs.code 1 (some .int)]
def wsX8_isConsistent : List Cond := .code yX8_isConsistent cX8_isConsistent 4 (some .boolean) :: ((wsX8_isConsistent_r1 ++ wsX8_isConsistent_r2) ++ wsX80 ++ wsX60 ++ wsX00 ++ (vx_atM "java/lang/ArrayIndexOutOfBoundsException" ["java/lang/IndexOutOfBoundsException", "java/lang/RuntimeException", "java/lang/Exception"]).filter goodWord)
def wsX8_writeRings_r1 : List Cond := [Cond.fieldLink RX8 40 "TunnelRing" "tube" "LTunnelRing$Tube;", Cond.fieldLink RX8 178 "TunnelRing$Tube" "laid" "I", Cond.methodLink RX8 307 Lib.Math.min.name, Cond.static Lib.Math.min.name, Cond.initialized "java/lang/Math", Cond.code Lib.Math.min.name Lib.Math.min.code 2 (some .int), Cond.fieldLink RX8 61 "TunnelRing" "text" "LTunnelRing$Text;", Cond.fieldLink RX8 221 "TunnelRing$Tube" "position" "[I", Cond.fieldLink RX8 224 "TunnelRing$Tube" "taper" "[I", Cond.fieldLink RX8 319 "TunnelRing$Text" "length" "I", Cond.methodLink RX8 218 yX8_checkLaid, Cond.instanceMethod yX8_checkLaid, Cond.selects RX8 yX8_checkLaid yX8_checkLaid, Cond.initialized RX8, Cond.code yX8_checkLaid cX8_checkLaid 2 none, Cond.classLink RX8 322 "java/lang/IndexOutOfBoundsException", Cond.initialized "java/lang/IndexOutOfBoundsException", Cond.methodLink RX8 310 yX5_clear, Cond.instanceMethod yX5_clear, Cond.selects RX5 yX5_clear yX5_clear, Cond.initialized RX5, Cond.code yX5_clear cX5_clear 1 none, Cond.fieldLink RX5 15 "TunnelRing$Text" "length" "I", Cond.methodLink RX8 313 yX5_put]
def wsX8_writeRings_r2 : List Cond := [Cond.instanceMethod yX5_put, Cond.selects RX5 yX5_put yX5_put, Cond.code yX5_put cX5_put 2 none, Cond.fieldLink RX5 9 "TunnelRing$Text" "sign" "[C", Cond.methodLink RX8 316 yX5_putDigit, Cond.instanceMethod yX5_putDigit, Cond.selects RX5 yX5_putDigit yX5_putDigit, Cond.code yX5_putDigit cX5_putDigit 2 none, Cond.methodLink RX5 19 yX5_put]
def wsX8_writeRings : List Cond := .code yX8_writeRings cX8_writeRings 4 (some .int) :: ((wsX8_writeRings_r1 ++ wsX8_writeRings_r2) ++ wsX80 ++ wsX60 ++ wsX50 ++ (vx_atM "java/lang/ArrayIndexOutOfBoundsException" ["java/lang/IndexOutOfBoundsException", "java/lang/RuntimeException", "java/lang/Exception"]).filter goodWord ++ (vx_atS RX8 326 "java/lang/IndexOutOfBoundsException" ["java/lang/RuntimeException", "java/lang/Exception"]).filter goodWord)
def wsX8_lineAt : List Cond := .code yX8_lineAt cX8_lineAt 2 (some .char) :: ([.classLink RX8 322 "java/lang/IndexOutOfBoundsException", .initialized "java/lang/IndexOutOfBoundsException", .fieldLink RX8 61 "TunnelRing" "text" "LTunnelRing$Text;", .fieldLink RX8 319 "TunnelRing$Text" "length" "I", .fieldLink RX8 327 "TunnelRing$Text" "sign" "[C"] ++ wsX80 ++ wsX50 ++ (vx_atS RX8 326 "java/lang/IndexOutOfBoundsException" ["java/lang/RuntimeException", "java/lang/Exception"]).filter goodWord ++ (vx_atM "java/lang/ArrayIndexOutOfBoundsException" ["java/lang/IndexOutOfBoundsException", "java/lang/RuntimeException", "java/lang/Exception"]).filter goodWord)
def wsX9_init_r1 : List Cond := [Cond.methodLink RX9 1 objectInit, Cond.instanceMethod objectInit, Cond.code objectInit ⟨#[0xb1]⟩ 1 none, Cond.arrayClass .int, Cond.fieldLink RX9 9 "TunnelRingModel" "need" "[I", Cond.fieldLink RX9 13 "TunnelRingModel" "weak" "[I", Cond.fieldLink RX9 16 "TunnelRingModel" "bendX" "[I", Cond.fieldLink RX9 19 "TunnelRingModel" "bendY" "[I", Cond.fieldLink RX9 22 "TunnelRingModel" "sunk" "[I", Cond.fieldLink RX9 25 "TunnelRingModel" "position" "[I", Cond.fieldLink RX9 28 "TunnelRingModel" "taper" "[I", Cond.fieldLink RX9 31 "TunnelRingModel" "x" "[I", Cond.fieldLink RX9 34 "TunnelRingModel" "y" "[I", Cond.fieldLink RX9 37 "TunnelRingModel" "stackTaper" "[I", Cond.fieldLink RX9 40 "TunnelRingModel" "castAt" "[I", Cond.fieldLink RX9 43 "TunnelRingModel" "height" "[I", Cond.fieldLink RX9 46 "TunnelRingModel" "first" "[I", Cond.fieldLink RX9 49 "TunnelRingModel" "last" "[I", Cond.fieldLink RX9 52 "TunnelRingModel" "limit" "[I", Cond.fieldLink RX9 55 "TunnelRingModel" "rate" "[I", Cond.fieldLink RX9 58 "TunnelRingModel" "paid" "[I", Cond.arrayClass .char, Cond.fieldLink RX9 61 "TunnelRingModel" "line" "[C", Cond.fieldLink RX9 65 "TunnelRingModel" "pressure" "I"]
def wsX9_init_r2 : List Cond := [Cond.fieldLink RX9 69 "TunnelRingModel" "tolerance" "I"]
def wsX9_init : List Cond := .code yX9_init cX9_init 1 none :: ((wsX9_init_r1 ++ wsX9_init_r2) ++ wsX90)
def wsX9_thrown : List Cond := .code yX9_thrown cX9_thrown 1 (some .int) :: ([.fieldLink RX9 72 "TunnelRingModel" "thrown" "I"] ++ wsX90)
def wsX9_isIn : List Cond := .code yX9_isIn cX9_isIn 3 (some .boolean) :: ([])
def wsX9_isThrown : List Cond := .code yX9_isThrown cX9_isThrown 3 (some .boolean) :: ([.fieldLink RX9 72 "TunnelRingModel" "thrown" "I"] ++ wsX90)
def wsX9_across : List Cond := .code yX9_across cX9_across 1 (some .int) :: ([])
def wsX9_up : List Cond := .code yX9_up cX9_up 1 (some .int) :: ([])
def wsX9_addGround : List Cond := .code yX9_addGround cX9_addGround 5 (some .int) :: ([.fieldLink RX9 83 "TunnelRingModel" "grounds" "I", .fieldLink RX9 9 "TunnelRingModel" "need" "[I", .fieldLink RX9 13 "TunnelRingModel" "weak" "[I", .methodLink RX9 75 yX9_isIn, .static yX9_isIn, .initialized RX9, .code yX9_isIn cX9_isIn 3 (some .boolean), .methodLink RX9 79 yX9_isThrown, .instanceMethod yX9_isThrown, .selects RX9 yX9_isThrown yX9_isThrown, .code yX9_isThrown cX9_isThrown 3 (some .boolean), .fieldLink RX9 72 "TunnelRingModel" "thrown" "I"] ++ wsX90 ++ (vx_atM "java/lang/ArrayIndexOutOfBoundsException" ["java/lang/IndexOutOfBoundsException", "java/lang/RuntimeException", "java/lang/Exception"]).filter goodWord)
def wsX9_addCurve : List Cond := .code yX9_addCurve cX9_addCurve 5 (some .int) :: ([.fieldLink RX9 86 "TunnelRingModel" "bends" "I", .fieldLink RX9 16 "TunnelRingModel" "bendX" "[I", .fieldLink RX9 19 "TunnelRingModel" "bendY" "[I", .methodLink RX9 75 yX9_isIn, .static yX9_isIn, .initialized RX9, .code yX9_isIn cX9_isIn 3 (some .boolean), .methodLink RX9 79 yX9_isThrown, .instanceMethod yX9_isThrown, .selects RX9 yX9_isThrown yX9_isThrown, .code yX9_isThrown cX9_isThrown 3 (some .boolean), .fieldLink RX9 72 "TunnelRingModel" "thrown" "I"] ++ wsX90 ++ (vx_atM "java/lang/ArrayIndexOutOfBoundsException" ["java/lang/IndexOutOfBoundsException", "java/lang/RuntimeException", "java/lang/Exception"]).filter goodWord)
def wsX9_isNoGround : List Cond := .code yX9_isNoGround cX9_isNoGround 2 (some .boolean) :: ([.fieldLink RX9 83 "TunnelRingModel" "grounds" "I", .methodLink RX9 75 yX9_isIn, .static yX9_isIn, .initialized RX9, .code yX9_isIn cX9_isIn 3 (some .boolean), .methodLink RX9 79 yX9_isThrown, .instanceMethod yX9_isThrown, .selects RX9 yX9_isThrown yX9_isThrown, .code yX9_isThrown cX9_isThrown 3 (some .boolean), .fieldLink RX9 72 "TunnelRingModel" "thrown" "I"] ++ wsX90)
def wsX9_needAt : List Cond := .code yX9_needAt cX9_needAt 2 (some .int) :: ([.fieldLink RX9 9 "TunnelRingModel" "need" "[I", .methodLink RX9 89 yX9_isNoGround, .instanceMethod yX9_isNoGround, .selects RX9 yX9_isNoGround yX9_isNoGround, .initialized RX9, .code yX9_isNoGround cX9_isNoGround 2 (some .boolean), .fieldLink RX9 83 "TunnelRingModel" "grounds" "I", .methodLink RX9 75 yX9_isIn, .static yX9_isIn, .code yX9_isIn cX9_isIn 3 (some .boolean), .methodLink RX9 79 yX9_isThrown, .instanceMethod yX9_isThrown, .selects RX9 yX9_isThrown yX9_isThrown, .code yX9_isThrown cX9_isThrown 3 (some .boolean), .fieldLink RX9 72 "TunnelRingModel" "thrown" "I"] ++ wsX90 ++ (vx_atM "java/lang/ArrayIndexOutOfBoundsException" ["java/lang/IndexOutOfBoundsException", "java/lang/RuntimeException", "java/lang/Exception"]).filter goodWord)
def wsX9_weaknessAt : List Cond := .code yX9_weaknessAt cX9_weaknessAt 2 (some .int) :: ([.fieldLink RX9 13 "TunnelRingModel" "weak" "[I", .methodLink RX9 89 yX9_isNoGround, .instanceMethod yX9_isNoGround, .selects RX9 yX9_isNoGround yX9_isNoGround, .initialized RX9, .code yX9_isNoGround cX9_isNoGround 2 (some .boolean), .fieldLink RX9 83 "TunnelRingModel" "grounds" "I", .methodLink RX9 75 yX9_isIn, .static yX9_isIn, .code yX9_isIn cX9_isIn 3 (some .boolean), .methodLink RX9 79 yX9_isThrown, .instanceMethod yX9_isThrown, .selects RX9 yX9_isThrown yX9_isThrown, .code yX9_isThrown cX9_isThrown 3 (some .boolean), .fieldLink RX9 72 "TunnelRingModel" "thrown" "I"] ++ wsX90 ++ (vx_atM "java/lang/ArrayIndexOutOfBoundsException" ["java/lang/IndexOutOfBoundsException", "java/lang/RuntimeException", "java/lang/Exception"]).filter goodWord)
def wsX9_addHouse : List Cond := .code yX9_addHouse cX9_addHouse 5 (some .int) :: ([.fieldLink RX9 83 "TunnelRingModel" "grounds" "I", .fieldLink RX9 93 "TunnelRingModel" "houses" "I", .fieldLink RX9 46 "TunnelRingModel" "first" "[I", .fieldLink RX9 49 "TunnelRingModel" "last" "[I", .fieldLink RX9 52 "TunnelRingModel" "limit" "[I", .fieldLink RX9 55 "TunnelRingModel" "rate" "[I", .methodLink RX9 75 yX9_isIn, .static yX9_isIn, .initialized RX9, .code yX9_isIn cX9_isIn 3 (some .boolean), .methodLink RX9 79 yX9_isThrown, .instanceMethod yX9_isThrown, .selects RX9 yX9_isThrown yX9_isThrown, .code yX9_isThrown cX9_isThrown 3 (some .boolean), .fieldLink RX9 72 "TunnelRingModel" "thrown" "I"] ++ wsX90 ++ (vx_atM "java/lang/ArrayIndexOutOfBoundsException" ["java/lang/IndexOutOfBoundsException", "java/lang/RuntimeException", "java/lang/Exception"]).filter goodWord)
def wsX9_isNoStack : List Cond := .code yX9_isNoStack cX9_isNoStack 2 (some .boolean) :: ([.methodLink RX9 75 yX9_isIn, .static yX9_isIn, .initialized RX9, .code yX9_isIn cX9_isIn 3 (some .boolean), .methodLink RX9 79 yX9_isThrown, .instanceMethod yX9_isThrown, .selects RX9 yX9_isThrown yX9_isThrown, .code yX9_isThrown cX9_isThrown 3 (some .boolean), .fieldLink RX9 72 "TunnelRingModel" "thrown" "I"] ++ wsX90)
def wsX9_top : List Cond := .code yX9_top cX9_top 2 (some .int) :: ([.fieldLink RX9 43 "TunnelRingModel" "height" "[I"] ++ wsX90 ++ (vx_atM "java/lang/ArrayIndexOutOfBoundsException" ["java/lang/IndexOutOfBoundsException", "java/lang/RuntimeException", "java/lang/Exception"]).filter goodWord)
def wsX9_cast : List Cond := .code yX9_cast cX9_cast 3 (some .int) :: ([.fieldLink RX9 43 "TunnelRingModel" "height" "[I", .fieldLink RX9 37 "TunnelRingModel" "stackTaper" "[I", .fieldLink RX9 40 "TunnelRingModel" "castAt" "[I", .fieldLink RX9 103 "TunnelRingModel" "clock" "I", .methodLink RX9 96 yX9_isNoStack, .instanceMethod yX9_isNoStack, .selects RX9 yX9_isNoStack yX9_isNoStack, .initialized RX9, .code yX9_isNoStack cX9_isNoStack 2 (some .boolean), .methodLink RX9 75 yX9_isIn, .static yX9_isIn, .code yX9_isIn cX9_isIn 3 (some .boolean), .methodLink RX9 79 yX9_isThrown, .instanceMethod yX9_isThrown, .selects RX9 yX9_isThrown yX9_isThrown, .code yX9_isThrown cX9_isThrown 3 (some .boolean), .fieldLink RX9 72 "TunnelRingModel" "thrown" "I", .methodLink RX9 99 yX9_top, .instanceMethod yX9_top, .selects RX9 yX9_top yX9_top, .code yX9_top cX9_top 2 (some .int)] ++ wsX90 ++ (vx_atM "java/lang/ArrayIndexOutOfBoundsException" ["java/lang/IndexOutOfBoundsException", "java/lang/RuntimeException", "java/lang/Exception"]).filter goodWord)
def wsX9_heightOf : List Cond := .code yX9_heightOf cX9_heightOf 2 (some .int) :: ([.fieldLink RX9 43 "TunnelRingModel" "height" "[I", .methodLink RX9 96 yX9_isNoStack, .instanceMethod yX9_isNoStack, .selects RX9 yX9_isNoStack yX9_isNoStack, .initialized RX9, .code yX9_isNoStack cX9_isNoStack 2 (some .boolean), .methodLink RX9 75 yX9_isIn, .static yX9_isIn, .code yX9_isIn cX9_isIn 3 (some .boolean), .methodLink RX9 79 yX9_isThrown, .instanceMethod yX9_isThrown, .selects RX9 yX9_isThrown yX9_isThrown, .code yX9_isThrown cX9_isThrown 3 (some .boolean), .fieldLink RX9 72 "TunnelRingModel" "thrown" "I"] ++ wsX90 ++ (vx_atM "java/lang/ArrayIndexOutOfBoundsException" ["java/lang/IndexOutOfBoundsException", "java/lang/RuntimeException", "java/lang/Exception"]).filter goodWord)
def wsX9_taperAt : List Cond := .code yX9_taperAt cX9_taperAt 3 (some .int) :: ([.fieldLink RX9 43 "TunnelRingModel" "height" "[I", .fieldLink RX9 37 "TunnelRingModel" "stackTaper" "[I", .methodLink RX9 96 yX9_isNoStack, .instanceMethod yX9_isNoStack, .selects RX9 yX9_isNoStack yX9_isNoStack, .initialized RX9, .code yX9_isNoStack cX9_isNoStack 2 (some .boolean), .methodLink RX9 75 yX9_isIn, .static yX9_isIn, .code yX9_isIn cX9_isIn 3 (some .boolean), .methodLink RX9 79 yX9_isThrown, .instanceMethod yX9_isThrown, .selects RX9 yX9_isThrown yX9_isThrown, .code yX9_isThrown cX9_isThrown 3 (some .boolean), .fieldLink RX9 72 "TunnelRingModel" "thrown" "I"] ++ wsX90 ++ (vx_atM "java/lang/ArrayIndexOutOfBoundsException" ["java/lang/IndexOutOfBoundsException", "java/lang/RuntimeException", "java/lang/Exception"]).filter goodWord)
def wsX9_toCure : List Cond := .code yX9_toCure cX9_toCure 2 (some .int) :: ([.fieldLink RX9 40 "TunnelRingModel" "castAt" "[I", .fieldLink RX9 103 "TunnelRingModel" "clock" "I", .methodLink RX9 106 Lib.Math.max.name, .static Lib.Math.max.name, .initialized "java/lang/Math", .code Lib.Math.max.name Lib.Math.max.code 2 (some .int)] ++ wsX90 ++ (vx_atM "java/lang/ArrayIndexOutOfBoundsException" ["java/lang/IndexOutOfBoundsException", "java/lang/RuntimeException", "java/lang/Exception"]).filter goodWord)
def wsX9_isEmpty : List Cond := .code yX9_isEmpty cX9_isEmpty 2 (some .boolean) :: ([.fieldLink RX9 43 "TunnelRingModel" "height" "[I", .methodLink RX9 96 yX9_isNoStack, .instanceMethod yX9_isNoStack, .selects RX9 yX9_isNoStack yX9_isNoStack, .initialized RX9, .code yX9_isNoStack cX9_isNoStack 2 (some .boolean), .methodLink RX9 75 yX9_isIn, .static yX9_isIn, .code yX9_isIn cX9_isIn 3 (some .boolean), .methodLink RX9 79 yX9_isThrown, .instanceMethod yX9_isThrown, .selects RX9 yX9_isThrown yX9_isThrown, .code yX9_isThrown cX9_isThrown 3 (some .boolean), .fieldLink RX9 72 "TunnelRingModel" "thrown" "I"] ++ wsX90 ++ (vx_atM "java/lang/ArrayIndexOutOfBoundsException" ["java/lang/IndexOutOfBoundsException", "java/lang/RuntimeException", "java/lang/Exception"]).filter goodWord)
def wsX9_hoursToCure_r1 : List Cond := [Cond.methodLink RX9 112 yX9_isEmpty, Cond.instanceMethod yX9_isEmpty, Cond.selects RX9 yX9_isEmpty yX9_isEmpty, Cond.initialized RX9, Cond.code yX9_isEmpty cX9_isEmpty 2 (some .boolean), Cond.fieldLink RX9 43 "TunnelRingModel" "height" "[I", Cond.methodLink RX9 96 yX9_isNoStack, Cond.instanceMethod yX9_isNoStack, Cond.selects RX9 yX9_isNoStack yX9_isNoStack, Cond.code yX9_isNoStack cX9_isNoStack 2 (some .boolean), Cond.methodLink RX9 75 yX9_isIn, Cond.static yX9_isIn, Cond.code yX9_isIn cX9_isIn 3 (some .boolean), Cond.methodLink RX9 79 yX9_isThrown, Cond.instanceMethod yX9_isThrown, Cond.selects RX9 yX9_isThrown yX9_isThrown, Cond.code yX9_isThrown cX9_isThrown 3 (some .boolean), Cond.fieldLink RX9 72 "TunnelRingModel" "thrown" "I", Cond.methodLink RX9 99 yX9_top, Cond.instanceMethod yX9_top, Cond.selects RX9 yX9_top yX9_top, Cond.code yX9_top cX9_top 2 (some .int), Cond.methodLink RX9 115 yX9_toCure, Cond.instanceMethod yX9_toCure]
def wsX9_hoursToCure_r2 : List Cond := [Cond.selects RX9 yX9_toCure yX9_toCure, Cond.code yX9_toCure cX9_toCure 2 (some .int), Cond.fieldLink RX9 40 "TunnelRingModel" "castAt" "[I", Cond.fieldLink RX9 103 "TunnelRingModel" "clock" "I", Cond.methodLink RX9 106 Lib.Math.max.name, Cond.static Lib.Math.max.name, Cond.initialized "java/lang/Math", Cond.code Lib.Math.max.name Lib.Math.max.code 2 (some .int)]
def wsX9_hoursToCure : List Cond := .code yX9_hoursToCure cX9_hoursToCure 2 (some .int) :: ((wsX9_hoursToCure_r1 ++ wsX9_hoursToCure_r2) ++ wsX90 ++ (vx_atM "java/lang/ArrayIndexOutOfBoundsException" ["java/lang/IndexOutOfBoundsException", "java/lang/RuntimeException", "java/lang/Exception"]).filter goodWord)
def wsX9_restack : List Cond := .code yX9_restack cX9_restack 5 (some .int) :: ([.fieldLink RX9 43 "TunnelRingModel" "height" "[I", .fieldLink RX9 37 "TunnelRingModel" "stackTaper" "[I", .fieldLink RX9 40 "TunnelRingModel" "castAt" "[I", .methodLink RX9 75 yX9_isIn, .static yX9_isIn, .initialized RX9, .code yX9_isIn cX9_isIn 3 (some .boolean), .methodLink RX9 79 yX9_isThrown, .instanceMethod yX9_isThrown, .selects RX9 yX9_isThrown yX9_isThrown, .code yX9_isThrown cX9_isThrown 3 (some .boolean), .fieldLink RX9 72 "TunnelRingModel" "thrown" "I", .methodLink RX9 99 yX9_top, .instanceMethod yX9_top, .selects RX9 yX9_top yX9_top, .code yX9_top cX9_top 2 (some .int)] ++ wsX90 ++ (vx_atM "java/lang/ArrayIndexOutOfBoundsException" ["java/lang/IndexOutOfBoundsException", "java/lang/RuntimeException", "java/lang/Exception"]).filter goodWord)
def wsX9_curedShare : List Cond := .code yX9_curedShare cX9_curedShare 5 (some .float) :: ([.fieldLink RX9 43 "TunnelRingModel" "height" "[I", .methodLink RX9 115 yX9_toCure, .instanceMethod yX9_toCure, .selects RX9 yX9_toCure yX9_toCure, .initialized RX9, .code yX9_toCure cX9_toCure 2 (some .int), .fieldLink RX9 40 "TunnelRingModel" "castAt" "[I", .fieldLink RX9 103 "TunnelRingModel" "clock" "I", .methodLink RX9 106 Lib.Math.max.name, .static Lib.Math.max.name, .initialized "java/lang/Math", .code Lib.Math.max.name Lib.Math.max.code 2 (some .int), .methodLink RX9 79 yX9_isThrown, .instanceMethod yX9_isThrown, .selects RX9 yX9_isThrown yX9_isThrown, .code yX9_isThrown cX9_isThrown 3 (some .boolean), .fieldLink RX9 72 "TunnelRingModel" "thrown" "I"] ++ wsX90 ++ (vx_atM "java/lang/ArrayIndexOutOfBoundsException" ["java/lang/IndexOutOfBoundsException", "java/lang/RuntimeException", "java/lang/Exception"]).filter goodWord)
def wsX9_setPressure : List Cond := .code yX9_setPressure cX9_setPressure 3 (some .int) :: ([.fieldLink RX9 65 "TunnelRingModel" "pressure" "I", .methodLink RX9 75 yX9_isIn, .static yX9_isIn, .initialized RX9, .code yX9_isIn cX9_isIn 3 (some .boolean), .methodLink RX9 79 yX9_isThrown, .instanceMethod yX9_isThrown, .selects RX9 yX9_isThrown yX9_isThrown, .code yX9_isThrown cX9_isThrown 3 (some .boolean), .fieldLink RX9 72 "TunnelRingModel" "thrown" "I"] ++ wsX90)
def wsX9_addSlurry : List Cond := .code yX9_addSlurry cX9_addSlurry 2 (some .int) :: ([.fieldLink RX9 118 "TunnelRingModel" "tank" "I", .methodLink RX9 75 yX9_isIn, .static yX9_isIn, .initialized RX9, .code yX9_isIn cX9_isIn 3 (some .boolean), .methodLink RX9 79 yX9_isThrown, .instanceMethod yX9_isThrown, .selects RX9 yX9_isThrown yX9_isThrown, .code yX9_isThrown cX9_isThrown 3 (some .boolean), .fieldLink RX9 72 "TunnelRingModel" "thrown" "I"] ++ wsX90)
def wsX9_slurry : List Cond := .code yX9_slurry cX9_slurry 1 (some .int) :: ([.fieldLink RX9 72 "TunnelRingModel" "thrown" "I", .fieldLink RX9 118 "TunnelRingModel" "tank" "I"] ++ wsX90)
def wsX9_takes : List Cond := .code yX9_takes cX9_takes 1 (some .int) :: ([.fieldLink RX9 13 "TunnelRingModel" "weak" "[I", .fieldLink RX9 121 "TunnelRingModel" "rings" "I", .fieldLink RX9 65 "TunnelRingModel" "pressure" "I", .fieldLink RX9 9 "TunnelRingModel" "need" "[I", .methodLink RX9 106 Lib.Math.max.name, .static Lib.Math.max.name, .initialized "java/lang/Math", .code Lib.Math.max.name Lib.Math.max.code 2 (some .int)] ++ wsX90 ++ (vx_atM "java/lang/ArrayIndexOutOfBoundsException" ["java/lang/IndexOutOfBoundsException", "java/lang/RuntimeException", "java/lang/Exception"]).filter goodWord)
def wsX9_slurryFor : List Cond := .code yX9_slurryFor cX9_slurryFor 1 (some .int) :: ([.fieldLink RX9 121 "TunnelRingModel" "rings" "I", .fieldLink RX9 83 "TunnelRingModel" "grounds" "I", .methodLink RX9 79 yX9_isThrown, .instanceMethod yX9_isThrown, .selects RX9 yX9_isThrown yX9_isThrown, .initialized RX9, .code yX9_isThrown cX9_isThrown 3 (some .boolean), .fieldLink RX9 72 "TunnelRingModel" "thrown" "I", .methodLink RX9 124 yX9_takes, .instanceMethod yX9_takes, .selects RX9 yX9_takes yX9_takes, .code yX9_takes cX9_takes 1 (some .int), .fieldLink RX9 13 "TunnelRingModel" "weak" "[I", .fieldLink RX9 65 "TunnelRingModel" "pressure" "I", .fieldLink RX9 9 "TunnelRingModel" "need" "[I", .methodLink RX9 106 Lib.Math.max.name, .static Lib.Math.max.name, .initialized "java/lang/Math", .code Lib.Math.max.name Lib.Math.max.code 2 (some .int)] ++ wsX90 ++ (vx_atM "java/lang/ArrayIndexOutOfBoundsException" ["java/lang/IndexOutOfBoundsException", "java/lang/RuntimeException", "java/lang/Exception"]).filter goodWord)
def wsX9_setTolerance : List Cond := .code yX9_setTolerance cX9_setTolerance 3 (some .int) :: ([.fieldLink RX9 69 "TunnelRingModel" "tolerance" "I", .methodLink RX9 75 yX9_isIn, .static yX9_isIn, .initialized RX9, .code yX9_isIn cX9_isIn 3 (some .boolean), .methodLink RX9 79 yX9_isThrown, .instanceMethod yX9_isThrown, .selects RX9 yX9_isThrown yX9_isThrown, .code yX9_isThrown cX9_isThrown 3 (some .boolean), .fieldLink RX9 72 "TunnelRingModel" "thrown" "I"] ++ wsX90)
def wsX9_planned : List Cond := .code yX9_planned cX9_planned 6 (some .int) :: ([.fieldLink RX9 86 "TunnelRingModel" "bends" "I"] ++ wsX90 ++ (vx_atM "java/lang/ArrayIndexOutOfBoundsException" ["java/lang/IndexOutOfBoundsException", "java/lang/RuntimeException", "java/lang/Exception"]).filter goodWord)
def wsX9_apart : List Cond := .code yX9_apart cX9_apart 4 (some .int) :: ([.fieldLink RX9 16 "TunnelRingModel" "bendX" "[I", .methodLink RX9 132 Lib.Math.abs.name, .static Lib.Math.abs.name, .initialized "java/lang/Math", .code Lib.Math.abs.name Lib.Math.abs.code 1 (some .int), .fieldLink RX9 19 "TunnelRingModel" "bendY" "[I", .methodLink RX9 128 yX9_planned, .instanceMethod yX9_planned, .selects RX9 yX9_planned yX9_planned, .initialized RX9, .code yX9_planned cX9_planned 6 (some .int), .fieldLink RX9 86 "TunnelRingModel" "bends" "I"] ++ wsX90 ++ (vx_atM "java/lang/ArrayIndexOutOfBoundsException" ["java/lang/IndexOutOfBoundsException", "java/lang/RuntimeException", "java/lang/Exception"]).filter goodWord)
def wsX9_lastX : List Cond := .code yX9_lastX cX9_lastX 1 (some .int) :: ([.fieldLink RX9 121 "TunnelRingModel" "rings" "I", .fieldLink RX9 31 "TunnelRingModel" "x" "[I"] ++ wsX90 ++ (vx_atM "java/lang/ArrayIndexOutOfBoundsException" ["java/lang/IndexOutOfBoundsException", "java/lang/RuntimeException", "java/lang/Exception"]).filter goodWord)
def wsX9_lastY : List Cond := .code yX9_lastY cX9_lastY 1 (some .int) :: ([.fieldLink RX9 121 "TunnelRingModel" "rings" "I", .fieldLink RX9 34 "TunnelRingModel" "y" "[I"] ++ wsX90 ++ (vx_atM "java/lang/ArrayIndexOutOfBoundsException" ["java/lang/IndexOutOfBoundsException", "java/lang/RuntimeException", "java/lang/Exception"]).filter goodWord)
def wsX9_deviation_r1 : List Cond := [Cond.fieldLink RX9 121 "TunnelRingModel" "rings" "I", Cond.fieldLink RX9 138 "TunnelRingModel" "headX" "I", Cond.fieldLink RX9 147 "TunnelRingModel" "headY" "I", Cond.methodLink RX9 135 yX9_lastX, Cond.instanceMethod yX9_lastX, Cond.selects RX9 yX9_lastX yX9_lastX, Cond.initialized RX9, Cond.code yX9_lastX cX9_lastX 1 (some .int), Cond.fieldLink RX9 31 "TunnelRingModel" "x" "[I", Cond.methodLink RX9 141 yX9_across, Cond.static yX9_across, Cond.code yX9_across cX9_across 1 (some .int), Cond.methodLink RX9 144 yX9_lastY, Cond.instanceMethod yX9_lastY, Cond.selects RX9 yX9_lastY yX9_lastY, Cond.code yX9_lastY cX9_lastY 1 (some .int), Cond.fieldLink RX9 34 "TunnelRingModel" "y" "[I", Cond.methodLink RX9 150 yX9_up, Cond.static yX9_up, Cond.code yX9_up cX9_up 1 (some .int), Cond.methodLink RX9 153 yX9_apart, Cond.instanceMethod yX9_apart, Cond.selects RX9 yX9_apart yX9_apart, Cond.code yX9_apart cX9_apart 4 (some .int)]
def wsX9_deviation_r2 : List Cond := [Cond.fieldLink RX9 16 "TunnelRingModel" "bendX" "[I", Cond.methodLink RX9 132 Lib.Math.abs.name, Cond.static Lib.Math.abs.name, Cond.initialized "java/lang/Math", Cond.code Lib.Math.abs.name Lib.Math.abs.code 1 (some .int), Cond.fieldLink RX9 19 "TunnelRingModel" "bendY" "[I", Cond.methodLink RX9 128 yX9_planned, Cond.instanceMethod yX9_planned, Cond.selects RX9 yX9_planned yX9_planned, Cond.code yX9_planned cX9_planned 6 (some .int), Cond.fieldLink RX9 86 "TunnelRingModel" "bends" "I"]
def wsX9_deviation : List Cond := .code yX9_deviation cX9_deviation 3 (some .int) :: ((wsX9_deviation_r1 ++ wsX9_deviation_r2) ++ wsX90 ++ (vx_atM "java/lang/ArrayIndexOutOfBoundsException" ["java/lang/IndexOutOfBoundsException", "java/lang/RuntimeException", "java/lang/Exception"]).filter goodWord)
def wsX9_fits : List Cond := .code yX9_fits cX9_fits 2 (some .boolean) :: ([.methodLink RX9 132 Lib.Math.abs.name, .static Lib.Math.abs.name, .initialized "java/lang/Math", .code Lib.Math.abs.name Lib.Math.abs.code 1 (some .int)])
def wsX9_before : List Cond := .code yX9_before cX9_before 1 (some .int) :: ([.fieldLink RX9 121 "TunnelRingModel" "rings" "I", .fieldLink RX9 25 "TunnelRingModel" "position" "[I"] ++ wsX90 ++ (vx_atM "java/lang/ArrayIndexOutOfBoundsException" ["java/lang/IndexOutOfBoundsException", "java/lang/RuntimeException", "java/lang/Exception"]).filter goodWord)
def wsX9_reason_r1 : List Cond := [Cond.fieldLink RX9 43 "TunnelRingModel" "height" "[I", Cond.fieldLink RX9 121 "TunnelRingModel" "rings" "I", Cond.fieldLink RX9 83 "TunnelRingModel" "grounds" "I", Cond.fieldLink RX9 118 "TunnelRingModel" "tank" "I", Cond.fieldLink RX9 37 "TunnelRingModel" "stackTaper" "[I", Cond.fieldLink RX9 69 "TunnelRingModel" "tolerance" "I", Cond.methodLink RX9 99 yX9_top, Cond.instanceMethod yX9_top, Cond.selects RX9 yX9_top yX9_top, Cond.initialized RX9, Cond.code yX9_top cX9_top 2 (some .int), Cond.methodLink RX9 115 yX9_toCure, Cond.instanceMethod yX9_toCure, Cond.selects RX9 yX9_toCure yX9_toCure, Cond.code yX9_toCure cX9_toCure 2 (some .int), Cond.fieldLink RX9 40 "TunnelRingModel" "castAt" "[I", Cond.fieldLink RX9 103 "TunnelRingModel" "clock" "I", Cond.methodLink RX9 106 Lib.Math.max.name, Cond.static Lib.Math.max.name, Cond.initialized "java/lang/Math", Cond.code Lib.Math.max.name Lib.Math.max.code 2 (some .int), Cond.methodLink RX9 157 yX9_before, Cond.instanceMethod yX9_before, Cond.selects RX9 yX9_before yX9_before]
def wsX9_reason_r2 : List Cond := [Cond.code yX9_before cX9_before 1 (some .int), Cond.fieldLink RX9 25 "TunnelRingModel" "position" "[I", Cond.methodLink RX9 160 yX9_fits, Cond.static yX9_fits, Cond.code yX9_fits cX9_fits 2 (some .boolean), Cond.methodLink RX9 132 Lib.Math.abs.name, Cond.static Lib.Math.abs.name, Cond.code Lib.Math.abs.name Lib.Math.abs.code 1 (some .int), Cond.methodLink RX9 124 yX9_takes, Cond.instanceMethod yX9_takes, Cond.selects RX9 yX9_takes yX9_takes, Cond.code yX9_takes cX9_takes 1 (some .int), Cond.fieldLink RX9 13 "TunnelRingModel" "weak" "[I", Cond.fieldLink RX9 65 "TunnelRingModel" "pressure" "I", Cond.fieldLink RX9 9 "TunnelRingModel" "need" "[I", Cond.methodLink RX9 164 yX9_deviation, Cond.instanceMethod yX9_deviation, Cond.selects RX9 yX9_deviation yX9_deviation, Cond.code yX9_deviation cX9_deviation 3 (some .int), Cond.fieldLink RX9 138 "TunnelRingModel" "headX" "I", Cond.fieldLink RX9 147 "TunnelRingModel" "headY" "I", Cond.methodLink RX9 135 yX9_lastX, Cond.instanceMethod yX9_lastX, Cond.selects RX9 yX9_lastX yX9_lastX]
def wsX9_reason_r3 : List Cond := [Cond.code yX9_lastX cX9_lastX 1 (some .int), Cond.fieldLink RX9 31 "TunnelRingModel" "x" "[I", Cond.methodLink RX9 141 yX9_across, Cond.static yX9_across, Cond.code yX9_across cX9_across 1 (some .int), Cond.methodLink RX9 144 yX9_lastY, Cond.instanceMethod yX9_lastY, Cond.selects RX9 yX9_lastY yX9_lastY, Cond.code yX9_lastY cX9_lastY 1 (some .int), Cond.fieldLink RX9 34 "TunnelRingModel" "y" "[I", Cond.methodLink RX9 150 yX9_up, Cond.static yX9_up, Cond.code yX9_up cX9_up 1 (some .int), Cond.methodLink RX9 153 yX9_apart, Cond.instanceMethod yX9_apart, Cond.selects RX9 yX9_apart yX9_apart, Cond.code yX9_apart cX9_apart 4 (some .int), Cond.fieldLink RX9 16 "TunnelRingModel" "bendX" "[I", Cond.fieldLink RX9 19 "TunnelRingModel" "bendY" "[I", Cond.methodLink RX9 128 yX9_planned, Cond.instanceMethod yX9_planned, Cond.selects RX9 yX9_planned yX9_planned, Cond.code yX9_planned cX9_planned 6 (some .int), Cond.fieldLink RX9 86 "TunnelRingModel" "bends" "I"]
def wsX9_reason : List Cond := .code yX9_reason cX9_reason 4 (some .char) :: ((wsX9_reason_r1 ++ (wsX9_reason_r2 ++ wsX9_reason_r3)) ++ wsX90 ++ (vx_atM "java/lang/ArrayIndexOutOfBoundsException" ["java/lang/IndexOutOfBoundsException", "java/lang/RuntimeException", "java/lang/Exception"]).filter goodWord)
def wsX9_isNoPosition : List Cond := .code yX9_isNoPosition cX9_isNoPosition 3 (some .boolean) :: ([.methodLink RX9 96 yX9_isNoStack, .instanceMethod yX9_isNoStack, .selects RX9 yX9_isNoStack yX9_isNoStack, .initialized RX9, .code yX9_isNoStack cX9_isNoStack 2 (some .boolean), .methodLink RX9 75 yX9_isIn, .static yX9_isIn, .code yX9_isIn cX9_isIn 3 (some .boolean), .methodLink RX9 79 yX9_isThrown, .instanceMethod yX9_isThrown, .selects RX9 yX9_isThrown yX9_isThrown, .code yX9_isThrown cX9_isThrown 3 (some .boolean), .fieldLink RX9 72 "TunnelRingModel" "thrown" "I"] ++ wsX90)
def wsX9_reasonFor_r1 : List Cond := [Cond.methodLink RX9 167 yX9_isNoPosition, Cond.instanceMethod yX9_isNoPosition, Cond.selects RX9 yX9_isNoPosition yX9_isNoPosition, Cond.initialized RX9, Cond.code yX9_isNoPosition cX9_isNoPosition 3 (some .boolean), Cond.methodLink RX9 96 yX9_isNoStack, Cond.instanceMethod yX9_isNoStack, Cond.selects RX9 yX9_isNoStack yX9_isNoStack, Cond.code yX9_isNoStack cX9_isNoStack 2 (some .boolean), Cond.methodLink RX9 75 yX9_isIn, Cond.static yX9_isIn, Cond.code yX9_isIn cX9_isIn 3 (some .boolean), Cond.methodLink RX9 79 yX9_isThrown, Cond.instanceMethod yX9_isThrown, Cond.selects RX9 yX9_isThrown yX9_isThrown, Cond.code yX9_isThrown cX9_isThrown 3 (some .boolean), Cond.fieldLink RX9 72 "TunnelRingModel" "thrown" "I", Cond.methodLink RX9 170 yX9_reason, Cond.instanceMethod yX9_reason, Cond.selects RX9 yX9_reason yX9_reason, Cond.code yX9_reason cX9_reason 4 (some .char), Cond.fieldLink RX9 43 "TunnelRingModel" "height" "[I", Cond.fieldLink RX9 121 "TunnelRingModel" "rings" "I", Cond.fieldLink RX9 83 "TunnelRingModel" "grounds" "I"]
def wsX9_reasonFor_r2 : List Cond := [Cond.fieldLink RX9 118 "TunnelRingModel" "tank" "I", Cond.fieldLink RX9 37 "TunnelRingModel" "stackTaper" "[I", Cond.fieldLink RX9 69 "TunnelRingModel" "tolerance" "I", Cond.methodLink RX9 99 yX9_top, Cond.instanceMethod yX9_top, Cond.selects RX9 yX9_top yX9_top, Cond.code yX9_top cX9_top 2 (some .int), Cond.methodLink RX9 115 yX9_toCure, Cond.instanceMethod yX9_toCure, Cond.selects RX9 yX9_toCure yX9_toCure, Cond.code yX9_toCure cX9_toCure 2 (some .int), Cond.fieldLink RX9 40 "TunnelRingModel" "castAt" "[I", Cond.fieldLink RX9 103 "TunnelRingModel" "clock" "I", Cond.methodLink RX9 106 Lib.Math.max.name, Cond.static Lib.Math.max.name, Cond.initialized "java/lang/Math", Cond.code Lib.Math.max.name Lib.Math.max.code 2 (some .int), Cond.methodLink RX9 157 yX9_before, Cond.instanceMethod yX9_before, Cond.selects RX9 yX9_before yX9_before, Cond.code yX9_before cX9_before 1 (some .int), Cond.fieldLink RX9 25 "TunnelRingModel" "position" "[I", Cond.methodLink RX9 160 yX9_fits, Cond.static yX9_fits]
def wsX9_reasonFor_r3 : List Cond := [Cond.code yX9_fits cX9_fits 2 (some .boolean), Cond.methodLink RX9 132 Lib.Math.abs.name, Cond.static Lib.Math.abs.name, Cond.code Lib.Math.abs.name Lib.Math.abs.code 1 (some .int), Cond.methodLink RX9 124 yX9_takes, Cond.instanceMethod yX9_takes, Cond.selects RX9 yX9_takes yX9_takes, Cond.code yX9_takes cX9_takes 1 (some .int), Cond.fieldLink RX9 13 "TunnelRingModel" "weak" "[I", Cond.fieldLink RX9 65 "TunnelRingModel" "pressure" "I", Cond.fieldLink RX9 9 "TunnelRingModel" "need" "[I", Cond.methodLink RX9 164 yX9_deviation, Cond.instanceMethod yX9_deviation, Cond.selects RX9 yX9_deviation yX9_deviation, Cond.code yX9_deviation cX9_deviation 3 (some .int), Cond.fieldLink RX9 138 "TunnelRingModel" "headX" "I", Cond.fieldLink RX9 147 "TunnelRingModel" "headY" "I", Cond.methodLink RX9 135 yX9_lastX, Cond.instanceMethod yX9_lastX, Cond.selects RX9 yX9_lastX yX9_lastX, Cond.code yX9_lastX cX9_lastX 1 (some .int), Cond.fieldLink RX9 31 "TunnelRingModel" "x" "[I", Cond.methodLink RX9 141 yX9_across, Cond.static yX9_across]
def wsX9_reasonFor_r4 : List Cond := [Cond.code yX9_across cX9_across 1 (some .int), Cond.methodLink RX9 144 yX9_lastY, Cond.instanceMethod yX9_lastY, Cond.selects RX9 yX9_lastY yX9_lastY, Cond.code yX9_lastY cX9_lastY 1 (some .int), Cond.fieldLink RX9 34 "TunnelRingModel" "y" "[I", Cond.methodLink RX9 150 yX9_up, Cond.static yX9_up, Cond.code yX9_up cX9_up 1 (some .int), Cond.methodLink RX9 153 yX9_apart, Cond.instanceMethod yX9_apart, Cond.selects RX9 yX9_apart yX9_apart, Cond.code yX9_apart cX9_apart 4 (some .int), Cond.fieldLink RX9 16 "TunnelRingModel" "bendX" "[I", Cond.fieldLink RX9 19 "TunnelRingModel" "bendY" "[I", Cond.methodLink RX9 128 yX9_planned, Cond.instanceMethod yX9_planned, Cond.selects RX9 yX9_planned yX9_planned, Cond.code yX9_planned cX9_planned 6 (some .int), Cond.fieldLink RX9 86 "TunnelRingModel" "bends" "I"]
def wsX9_reasonFor : List Cond := .code yX9_reasonFor cX9_reasonFor 3 (some .char) :: ((wsX9_reasonFor_r1 ++ (wsX9_reasonFor_r2 ++ (wsX9_reasonFor_r3 ++ wsX9_reasonFor_r4))) ++ wsX90 ++ (vx_atM "java/lang/ArrayIndexOutOfBoundsException" ["java/lang/IndexOutOfBoundsException", "java/lang/RuntimeException", "java/lang/Exception"]).filter goodWord)
def wsX9_sinks : List Cond := .code yX9_sinks cX9_sinks 3 none :: ([.fieldLink RX9 83 "TunnelRingModel" "grounds" "I", .fieldLink RX9 22 "TunnelRingModel" "sunk" "[I", .methodLink RX9 75 yX9_isIn, .static yX9_isIn, .initialized RX9, .code yX9_isIn cX9_isIn 3 (some .boolean)] ++ wsX90 ++ (vx_atM "java/lang/ArrayIndexOutOfBoundsException" ["java/lang/IndexOutOfBoundsException", "java/lang/RuntimeException", "java/lang/Exception"]).filter goodWord)
def wsX9_lay_r1 : List Cond := [Cond.fieldLink RX9 103 "TunnelRingModel" "clock" "I", Cond.fieldLink RX9 37 "TunnelRingModel" "stackTaper" "[I", Cond.fieldLink RX9 9 "TunnelRingModel" "need" "[I", Cond.fieldLink RX9 121 "TunnelRingModel" "rings" "I", Cond.fieldLink RX9 65 "TunnelRingModel" "pressure" "I", Cond.methodLink RX9 106 Lib.Math.max.name, Cond.static Lib.Math.max.name, Cond.initialized "java/lang/Math", Cond.code Lib.Math.max.name Lib.Math.max.code 2 (some .int), Cond.fieldLink RX9 13 "TunnelRingModel" "weak" "[I", Cond.fieldLink RX9 118 "TunnelRingModel" "tank" "I", Cond.fieldLink RX9 138 "TunnelRingModel" "headX" "I", Cond.fieldLink RX9 147 "TunnelRingModel" "headY" "I", Cond.fieldLink RX9 25 "TunnelRingModel" "position" "[I", Cond.fieldLink RX9 28 "TunnelRingModel" "taper" "[I", Cond.fieldLink RX9 31 "TunnelRingModel" "x" "[I", Cond.fieldLink RX9 34 "TunnelRingModel" "y" "[I", Cond.fieldLink RX9 43 "TunnelRingModel" "height" "[I", Cond.methodLink RX9 167 yX9_isNoPosition, Cond.instanceMethod yX9_isNoPosition, Cond.selects RX9 yX9_isNoPosition yX9_isNoPosition, Cond.initialized RX9, Cond.code yX9_isNoPosition cX9_isNoPosition 3 (some .boolean), Cond.methodLink RX9 96 yX9_isNoStack]
def wsX9_lay_r2 : List Cond := [Cond.instanceMethod yX9_isNoStack, Cond.selects RX9 yX9_isNoStack yX9_isNoStack, Cond.code yX9_isNoStack cX9_isNoStack 2 (some .boolean), Cond.methodLink RX9 75 yX9_isIn, Cond.static yX9_isIn, Cond.code yX9_isIn cX9_isIn 3 (some .boolean), Cond.methodLink RX9 79 yX9_isThrown, Cond.instanceMethod yX9_isThrown, Cond.selects RX9 yX9_isThrown yX9_isThrown, Cond.code yX9_isThrown cX9_isThrown 3 (some .boolean), Cond.fieldLink RX9 72 "TunnelRingModel" "thrown" "I", Cond.methodLink RX9 170 yX9_reason, Cond.instanceMethod yX9_reason, Cond.selects RX9 yX9_reason yX9_reason, Cond.code yX9_reason cX9_reason 4 (some .char), Cond.fieldLink RX9 83 "TunnelRingModel" "grounds" "I", Cond.fieldLink RX9 69 "TunnelRingModel" "tolerance" "I", Cond.methodLink RX9 99 yX9_top, Cond.instanceMethod yX9_top, Cond.selects RX9 yX9_top yX9_top, Cond.code yX9_top cX9_top 2 (some .int), Cond.methodLink RX9 115 yX9_toCure, Cond.instanceMethod yX9_toCure, Cond.selects RX9 yX9_toCure yX9_toCure]
def wsX9_lay_r3 : List Cond := [Cond.code yX9_toCure cX9_toCure 2 (some .int), Cond.fieldLink RX9 40 "TunnelRingModel" "castAt" "[I", Cond.methodLink RX9 157 yX9_before, Cond.instanceMethod yX9_before, Cond.selects RX9 yX9_before yX9_before, Cond.code yX9_before cX9_before 1 (some .int), Cond.methodLink RX9 160 yX9_fits, Cond.static yX9_fits, Cond.code yX9_fits cX9_fits 2 (some .boolean), Cond.methodLink RX9 132 Lib.Math.abs.name, Cond.static Lib.Math.abs.name, Cond.code Lib.Math.abs.name Lib.Math.abs.code 1 (some .int), Cond.methodLink RX9 124 yX9_takes, Cond.instanceMethod yX9_takes, Cond.selects RX9 yX9_takes yX9_takes, Cond.code yX9_takes cX9_takes 1 (some .int), Cond.methodLink RX9 164 yX9_deviation, Cond.instanceMethod yX9_deviation, Cond.selects RX9 yX9_deviation yX9_deviation, Cond.code yX9_deviation cX9_deviation 3 (some .int), Cond.methodLink RX9 135 yX9_lastX, Cond.instanceMethod yX9_lastX, Cond.selects RX9 yX9_lastX yX9_lastX, Cond.code yX9_lastX cX9_lastX 1 (some .int)]
def wsX9_lay_r4 : List Cond := [Cond.methodLink RX9 141 yX9_across, Cond.static yX9_across, Cond.code yX9_across cX9_across 1 (some .int), Cond.methodLink RX9 144 yX9_lastY, Cond.instanceMethod yX9_lastY, Cond.selects RX9 yX9_lastY yX9_lastY, Cond.code yX9_lastY cX9_lastY 1 (some .int), Cond.methodLink RX9 150 yX9_up, Cond.static yX9_up, Cond.code yX9_up cX9_up 1 (some .int), Cond.methodLink RX9 153 yX9_apart, Cond.instanceMethod yX9_apart, Cond.selects RX9 yX9_apart yX9_apart, Cond.code yX9_apart cX9_apart 4 (some .int), Cond.fieldLink RX9 16 "TunnelRingModel" "bendX" "[I", Cond.fieldLink RX9 19 "TunnelRingModel" "bendY" "[I", Cond.methodLink RX9 128 yX9_planned, Cond.instanceMethod yX9_planned, Cond.selects RX9 yX9_planned yX9_planned, Cond.code yX9_planned cX9_planned 6 (some .int), Cond.fieldLink RX9 86 "TunnelRingModel" "bends" "I", Cond.methodLink RX9 174 yX9_sinks, Cond.instanceMethod yX9_sinks, Cond.selects RX9 yX9_sinks yX9_sinks]
def wsX9_lay_r5 : List Cond := [Cond.code yX9_sinks cX9_sinks 3 none, Cond.fieldLink RX9 22 "TunnelRingModel" "sunk" "[I"]
def wsX9_lay : List Cond := .code yX9_lay cX9_lay 7 (some .int) :: ((wsX9_lay_r1 ++ (wsX9_lay_r2 ++ (wsX9_lay_r3 ++ (wsX9_lay_r4 ++ wsX9_lay_r5)))) ++ wsX90 ++ (vx_atM "java/lang/ArrayIndexOutOfBoundsException" ["java/lang/IndexOutOfBoundsException", "java/lang/RuntimeException", "java/lang/Exception"]).filter goodWord)
def wsX9_stop : List Cond := .code yX9_stop cX9_stop 2 (some .int) :: ([.fieldLink RX9 103 "TunnelRingModel" "clock" "I", .fieldLink RX9 121 "TunnelRingModel" "rings" "I", .fieldLink RX9 83 "TunnelRingModel" "grounds" "I", .fieldLink RX9 22 "TunnelRingModel" "sunk" "[I", .fieldLink RX9 9 "TunnelRingModel" "need" "[I", .fieldLink RX9 65 "TunnelRingModel" "pressure" "I", .methodLink RX9 106 Lib.Math.max.name, .static Lib.Math.max.name, .initialized "java/lang/Math", .code Lib.Math.max.name Lib.Math.max.code 2 (some .int), .fieldLink RX9 13 "TunnelRingModel" "weak" "[I", .methodLink RX9 75 yX9_isIn, .static yX9_isIn, .initialized RX9, .code yX9_isIn cX9_isIn 3 (some .boolean), .methodLink RX9 79 yX9_isThrown, .instanceMethod yX9_isThrown, .selects RX9 yX9_isThrown yX9_isThrown, .code yX9_isThrown cX9_isThrown 3 (some .boolean), .fieldLink RX9 72 "TunnelRingModel" "thrown" "I"] ++ wsX90 ++ (vx_atM "java/lang/ArrayIndexOutOfBoundsException" ["java/lang/IndexOutOfBoundsException", "java/lang/RuntimeException", "java/lang/Exception"]).filter goodWord)
def wsX9_clock : List Cond := .code yX9_clock cX9_clock 1 (some .int) :: ([.fieldLink RX9 72 "TunnelRingModel" "thrown" "I", .fieldLink RX9 103 "TunnelRingModel" "clock" "I"] ++ wsX90)
def wsX9_ringCount : List Cond := .code yX9_ringCount cX9_ringCount 1 (some .int) :: ([.fieldLink RX9 72 "TunnelRingModel" "thrown" "I", .fieldLink RX9 121 "TunnelRingModel" "rings" "I"] ++ wsX90)
def wsX9_isNoRing : List Cond := .code yX9_isNoRing cX9_isNoRing 2 (some .boolean) :: ([.fieldLink RX9 121 "TunnelRingModel" "rings" "I", .methodLink RX9 75 yX9_isIn, .static yX9_isIn, .initialized RX9, .code yX9_isIn cX9_isIn 3 (some .boolean), .methodLink RX9 79 yX9_isThrown, .instanceMethod yX9_isThrown, .selects RX9 yX9_isThrown yX9_isThrown, .code yX9_isThrown cX9_isThrown 3 (some .boolean), .fieldLink RX9 72 "TunnelRingModel" "thrown" "I"] ++ wsX90)
def wsX9_positionOf : List Cond := .code yX9_positionOf cX9_positionOf 2 (some .int) :: ([.fieldLink RX9 25 "TunnelRingModel" "position" "[I", .methodLink RX9 178 yX9_isNoRing, .instanceMethod yX9_isNoRing, .selects RX9 yX9_isNoRing yX9_isNoRing, .initialized RX9, .code yX9_isNoRing cX9_isNoRing 2 (some .boolean), .fieldLink RX9 121 "TunnelRingModel" "rings" "I", .methodLink RX9 75 yX9_isIn, .static yX9_isIn, .code yX9_isIn cX9_isIn 3 (some .boolean), .methodLink RX9 79 yX9_isThrown, .instanceMethod yX9_isThrown, .selects RX9 yX9_isThrown yX9_isThrown, .code yX9_isThrown cX9_isThrown 3 (some .boolean), .fieldLink RX9 72 "TunnelRingModel" "thrown" "I"] ++ wsX90 ++ (vx_atM "java/lang/ArrayIndexOutOfBoundsException" ["java/lang/IndexOutOfBoundsException", "java/lang/RuntimeException", "java/lang/Exception"]).filter goodWord)
def wsX9_taperOf : List Cond := .code yX9_taperOf cX9_taperOf 2 (some .int) :: ([.fieldLink RX9 28 "TunnelRingModel" "taper" "[I", .methodLink RX9 178 yX9_isNoRing, .instanceMethod yX9_isNoRing, .selects RX9 yX9_isNoRing yX9_isNoRing, .initialized RX9, .code yX9_isNoRing cX9_isNoRing 2 (some .boolean), .fieldLink RX9 121 "TunnelRingModel" "rings" "I", .methodLink RX9 75 yX9_isIn, .static yX9_isIn, .code yX9_isIn cX9_isIn 3 (some .boolean), .methodLink RX9 79 yX9_isThrown, .instanceMethod yX9_isThrown, .selects RX9 yX9_isThrown yX9_isThrown, .code yX9_isThrown cX9_isThrown 3 (some .boolean), .fieldLink RX9 72 "TunnelRingModel" "thrown" "I"] ++ wsX90 ++ (vx_atM "java/lang/ArrayIndexOutOfBoundsException" ["java/lang/IndexOutOfBoundsException", "java/lang/RuntimeException", "java/lang/Exception"]).filter goodWord)
def wsX9_xAfter : List Cond := .code yX9_xAfter cX9_xAfter 2 (some .int) :: ([.fieldLink RX9 31 "TunnelRingModel" "x" "[I", .methodLink RX9 178 yX9_isNoRing, .instanceMethod yX9_isNoRing, .selects RX9 yX9_isNoRing yX9_isNoRing, .initialized RX9, .code yX9_isNoRing cX9_isNoRing 2 (some .boolean), .fieldLink RX9 121 "TunnelRingModel" "rings" "I", .methodLink RX9 75 yX9_isIn, .static yX9_isIn, .code yX9_isIn cX9_isIn 3 (some .boolean), .methodLink RX9 79 yX9_isThrown, .instanceMethod yX9_isThrown, .selects RX9 yX9_isThrown yX9_isThrown, .code yX9_isThrown cX9_isThrown 3 (some .boolean), .fieldLink RX9 72 "TunnelRingModel" "thrown" "I"] ++ wsX90 ++ (vx_atM "java/lang/ArrayIndexOutOfBoundsException" ["java/lang/IndexOutOfBoundsException", "java/lang/RuntimeException", "java/lang/Exception"]).filter goodWord)
def wsX9_yAfter : List Cond := .code yX9_yAfter cX9_yAfter 2 (some .int) :: ([.fieldLink RX9 34 "TunnelRingModel" "y" "[I", .methodLink RX9 178 yX9_isNoRing, .instanceMethod yX9_isNoRing, .selects RX9 yX9_isNoRing yX9_isNoRing, .initialized RX9, .code yX9_isNoRing cX9_isNoRing 2 (some .boolean), .fieldLink RX9 121 "TunnelRingModel" "rings" "I", .methodLink RX9 75 yX9_isIn, .static yX9_isIn, .code yX9_isIn cX9_isIn 3 (some .boolean), .methodLink RX9 79 yX9_isThrown, .instanceMethod yX9_isThrown, .selects RX9 yX9_isThrown yX9_isThrown, .code yX9_isThrown cX9_isThrown 3 (some .boolean), .fieldLink RX9 72 "TunnelRingModel" "thrown" "I"] ++ wsX90 ++ (vx_atM "java/lang/ArrayIndexOutOfBoundsException" ["java/lang/IndexOutOfBoundsException", "java/lang/RuntimeException", "java/lang/Exception"]).filter goodWord)
def wsX9_xAnew : List Cond := .code yX9_xAnew cX9_xAnew 2 (some .int) :: ([.methodLink RX9 181 yX9_xAfter, .instanceMethod yX9_xAfter, .selects RX9 yX9_xAfter yX9_xAfter, .initialized RX9, .code yX9_xAfter cX9_xAfter 2 (some .int), .fieldLink RX9 31 "TunnelRingModel" "x" "[I", .methodLink RX9 178 yX9_isNoRing, .instanceMethod yX9_isNoRing, .selects RX9 yX9_isNoRing yX9_isNoRing, .code yX9_isNoRing cX9_isNoRing 2 (some .boolean), .fieldLink RX9 121 "TunnelRingModel" "rings" "I", .methodLink RX9 75 yX9_isIn, .static yX9_isIn, .code yX9_isIn cX9_isIn 3 (some .boolean), .methodLink RX9 79 yX9_isThrown, .instanceMethod yX9_isThrown, .selects RX9 yX9_isThrown yX9_isThrown, .code yX9_isThrown cX9_isThrown 3 (some .boolean), .fieldLink RX9 72 "TunnelRingModel" "thrown" "I"] ++ wsX90 ++ (vx_atM "java/lang/ArrayIndexOutOfBoundsException" ["java/lang/IndexOutOfBoundsException", "java/lang/RuntimeException", "java/lang/Exception"]).filter goodWord)
def wsX9_yAnew : List Cond := .code yX9_yAnew cX9_yAnew 2 (some .int) :: ([.methodLink RX9 184 yX9_yAfter, .instanceMethod yX9_yAfter, .selects RX9 yX9_yAfter yX9_yAfter, .initialized RX9, .code yX9_yAfter cX9_yAfter 2 (some .int), .fieldLink RX9 34 "TunnelRingModel" "y" "[I", .methodLink RX9 178 yX9_isNoRing, .instanceMethod yX9_isNoRing, .selects RX9 yX9_isNoRing yX9_isNoRing, .code yX9_isNoRing cX9_isNoRing 2 (some .boolean), .fieldLink RX9 121 "TunnelRingModel" "rings" "I", .methodLink RX9 75 yX9_isIn, .static yX9_isIn, .code yX9_isIn cX9_isIn 3 (some .boolean), .methodLink RX9 79 yX9_isThrown, .instanceMethod yX9_isThrown, .selects RX9 yX9_isThrown yX9_isThrown, .code yX9_isThrown cX9_isThrown 3 (some .boolean), .fieldLink RX9 72 "TunnelRingModel" "thrown" "I"] ++ wsX90 ++ (vx_atM "java/lang/ArrayIndexOutOfBoundsException" ["java/lang/IndexOutOfBoundsException", "java/lang/RuntimeException", "java/lang/Exception"]).filter goodWord)
def wsX9_deviationAfter_r1 : List Cond := [Cond.fieldLink RX9 31 "TunnelRingModel" "x" "[I", Cond.fieldLink RX9 34 "TunnelRingModel" "y" "[I", Cond.methodLink RX9 178 yX9_isNoRing, Cond.instanceMethod yX9_isNoRing, Cond.selects RX9 yX9_isNoRing yX9_isNoRing, Cond.initialized RX9, Cond.code yX9_isNoRing cX9_isNoRing 2 (some .boolean), Cond.fieldLink RX9 121 "TunnelRingModel" "rings" "I", Cond.methodLink RX9 75 yX9_isIn, Cond.static yX9_isIn, Cond.code yX9_isIn cX9_isIn 3 (some .boolean), Cond.methodLink RX9 79 yX9_isThrown, Cond.instanceMethod yX9_isThrown, Cond.selects RX9 yX9_isThrown yX9_isThrown, Cond.code yX9_isThrown cX9_isThrown 3 (some .boolean), Cond.fieldLink RX9 72 "TunnelRingModel" "thrown" "I", Cond.methodLink RX9 153 yX9_apart, Cond.instanceMethod yX9_apart, Cond.selects RX9 yX9_apart yX9_apart, Cond.code yX9_apart cX9_apart 4 (some .int), Cond.fieldLink RX9 16 "TunnelRingModel" "bendX" "[I", Cond.methodLink RX9 132 Lib.Math.abs.name, Cond.static Lib.Math.abs.name, Cond.initialized "java/lang/Math"]
def wsX9_deviationAfter_r2 : List Cond := [Cond.code Lib.Math.abs.name Lib.Math.abs.code 1 (some .int), Cond.fieldLink RX9 19 "TunnelRingModel" "bendY" "[I", Cond.methodLink RX9 128 yX9_planned, Cond.instanceMethod yX9_planned, Cond.selects RX9 yX9_planned yX9_planned, Cond.code yX9_planned cX9_planned 6 (some .int), Cond.fieldLink RX9 86 "TunnelRingModel" "bends" "I"]
def wsX9_deviationAfter : List Cond := .code yX9_deviationAfter cX9_deviationAfter 2 (some .int) :: ((wsX9_deviationAfter_r1 ++ wsX9_deviationAfter_r2) ++ wsX90 ++ (vx_atM "java/lang/ArrayIndexOutOfBoundsException" ["java/lang/IndexOutOfBoundsException", "java/lang/RuntimeException", "java/lang/Exception"]).filter goodWord)
def wsX9_deviationWith_r1 : List Cond := [Cond.fieldLink RX9 43 "TunnelRingModel" "height" "[I", Cond.fieldLink RX9 37 "TunnelRingModel" "stackTaper" "[I", Cond.methodLink RX9 167 yX9_isNoPosition, Cond.instanceMethod yX9_isNoPosition, Cond.selects RX9 yX9_isNoPosition yX9_isNoPosition, Cond.initialized RX9, Cond.code yX9_isNoPosition cX9_isNoPosition 3 (some .boolean), Cond.methodLink RX9 96 yX9_isNoStack, Cond.instanceMethod yX9_isNoStack, Cond.selects RX9 yX9_isNoStack yX9_isNoStack, Cond.code yX9_isNoStack cX9_isNoStack 2 (some .boolean), Cond.methodLink RX9 75 yX9_isIn, Cond.static yX9_isIn, Cond.code yX9_isIn cX9_isIn 3 (some .boolean), Cond.methodLink RX9 79 yX9_isThrown, Cond.instanceMethod yX9_isThrown, Cond.selects RX9 yX9_isThrown yX9_isThrown, Cond.code yX9_isThrown cX9_isThrown 3 (some .boolean), Cond.fieldLink RX9 72 "TunnelRingModel" "thrown" "I", Cond.methodLink RX9 99 yX9_top, Cond.instanceMethod yX9_top, Cond.selects RX9 yX9_top yX9_top, Cond.code yX9_top cX9_top 2 (some .int), Cond.methodLink RX9 164 yX9_deviation]
def wsX9_deviationWith_r2 : List Cond := [Cond.instanceMethod yX9_deviation, Cond.selects RX9 yX9_deviation yX9_deviation, Cond.code yX9_deviation cX9_deviation 3 (some .int), Cond.fieldLink RX9 121 "TunnelRingModel" "rings" "I", Cond.fieldLink RX9 138 "TunnelRingModel" "headX" "I", Cond.fieldLink RX9 147 "TunnelRingModel" "headY" "I", Cond.methodLink RX9 135 yX9_lastX, Cond.instanceMethod yX9_lastX, Cond.selects RX9 yX9_lastX yX9_lastX, Cond.code yX9_lastX cX9_lastX 1 (some .int), Cond.fieldLink RX9 31 "TunnelRingModel" "x" "[I", Cond.methodLink RX9 141 yX9_across, Cond.static yX9_across, Cond.code yX9_across cX9_across 1 (some .int), Cond.methodLink RX9 144 yX9_lastY, Cond.instanceMethod yX9_lastY, Cond.selects RX9 yX9_lastY yX9_lastY, Cond.code yX9_lastY cX9_lastY 1 (some .int), Cond.fieldLink RX9 34 "TunnelRingModel" "y" "[I", Cond.methodLink RX9 150 yX9_up, Cond.static yX9_up, Cond.code yX9_up cX9_up 1 (some .int), Cond.methodLink RX9 153 yX9_apart, Cond.instanceMethod yX9_apart]
def wsX9_deviationWith_r3 : List Cond := [Cond.selects RX9 yX9_apart yX9_apart, Cond.code yX9_apart cX9_apart 4 (some .int), Cond.fieldLink RX9 16 "TunnelRingModel" "bendX" "[I", Cond.methodLink RX9 132 Lib.Math.abs.name, Cond.static Lib.Math.abs.name, Cond.initialized "java/lang/Math", Cond.code Lib.Math.abs.name Lib.Math.abs.code 1 (some .int), Cond.fieldLink RX9 19 "TunnelRingModel" "bendY" "[I", Cond.methodLink RX9 128 yX9_planned, Cond.instanceMethod yX9_planned, Cond.selects RX9 yX9_planned yX9_planned, Cond.code yX9_planned cX9_planned 6 (some .int), Cond.fieldLink RX9 86 "TunnelRingModel" "bends" "I"]
def wsX9_deviationWith : List Cond := .code yX9_deviationWith cX9_deviationWith 3 (some .int) :: ((wsX9_deviationWith_r1 ++ (wsX9_deviationWith_r2 ++ wsX9_deviationWith_r3)) ++ wsX90 ++ (vx_atM "java/lang/ArrayIndexOutOfBoundsException" ["java/lang/IndexOutOfBoundsException", "java/lang/RuntimeException", "java/lang/Exception"]).filter goodWord)
def wsX9_bestPosition_r1 : List Cond := [Cond.fieldLink RX9 37 "TunnelRingModel" "stackTaper" "[I", Cond.methodLink RX9 112 yX9_isEmpty, Cond.instanceMethod yX9_isEmpty, Cond.selects RX9 yX9_isEmpty yX9_isEmpty, Cond.initialized RX9, Cond.code yX9_isEmpty cX9_isEmpty 2 (some .boolean), Cond.fieldLink RX9 43 "TunnelRingModel" "height" "[I", Cond.methodLink RX9 96 yX9_isNoStack, Cond.instanceMethod yX9_isNoStack, Cond.selects RX9 yX9_isNoStack yX9_isNoStack, Cond.code yX9_isNoStack cX9_isNoStack 2 (some .boolean), Cond.methodLink RX9 75 yX9_isIn, Cond.static yX9_isIn, Cond.code yX9_isIn cX9_isIn 3 (some .boolean), Cond.methodLink RX9 79 yX9_isThrown, Cond.instanceMethod yX9_isThrown, Cond.selects RX9 yX9_isThrown yX9_isThrown, Cond.code yX9_isThrown cX9_isThrown 3 (some .boolean), Cond.fieldLink RX9 72 "TunnelRingModel" "thrown" "I", Cond.methodLink RX9 99 yX9_top, Cond.instanceMethod yX9_top, Cond.selects RX9 yX9_top yX9_top, Cond.code yX9_top cX9_top 2 (some .int), Cond.methodLink RX9 157 yX9_before]
def wsX9_bestPosition_r2 : List Cond := [Cond.instanceMethod yX9_before, Cond.selects RX9 yX9_before yX9_before, Cond.code yX9_before cX9_before 1 (some .int), Cond.fieldLink RX9 121 "TunnelRingModel" "rings" "I", Cond.fieldLink RX9 25 "TunnelRingModel" "position" "[I", Cond.methodLink RX9 160 yX9_fits, Cond.static yX9_fits, Cond.code yX9_fits cX9_fits 2 (some .boolean), Cond.methodLink RX9 132 Lib.Math.abs.name, Cond.static Lib.Math.abs.name, Cond.initialized "java/lang/Math", Cond.code Lib.Math.abs.name Lib.Math.abs.code 1 (some .int), Cond.methodLink RX9 164 yX9_deviation, Cond.instanceMethod yX9_deviation, Cond.selects RX9 yX9_deviation yX9_deviation, Cond.code yX9_deviation cX9_deviation 3 (some .int), Cond.fieldLink RX9 138 "TunnelRingModel" "headX" "I", Cond.fieldLink RX9 147 "TunnelRingModel" "headY" "I", Cond.methodLink RX9 135 yX9_lastX, Cond.instanceMethod yX9_lastX, Cond.selects RX9 yX9_lastX yX9_lastX, Cond.code yX9_lastX cX9_lastX 1 (some .int), Cond.fieldLink RX9 31 "TunnelRingModel" "x" "[I", Cond.methodLink RX9 141 yX9_across]
def wsX9_bestPosition_r3 : List Cond := [Cond.static yX9_across, Cond.code yX9_across cX9_across 1 (some .int), Cond.methodLink RX9 144 yX9_lastY, Cond.instanceMethod yX9_lastY, Cond.selects RX9 yX9_lastY yX9_lastY, Cond.code yX9_lastY cX9_lastY 1 (some .int), Cond.fieldLink RX9 34 "TunnelRingModel" "y" "[I", Cond.methodLink RX9 150 yX9_up, Cond.static yX9_up, Cond.code yX9_up cX9_up 1 (some .int), Cond.methodLink RX9 153 yX9_apart, Cond.instanceMethod yX9_apart, Cond.selects RX9 yX9_apart yX9_apart, Cond.code yX9_apart cX9_apart 4 (some .int), Cond.fieldLink RX9 16 "TunnelRingModel" "bendX" "[I", Cond.fieldLink RX9 19 "TunnelRingModel" "bendY" "[I", Cond.methodLink RX9 128 yX9_planned, Cond.instanceMethod yX9_planned, Cond.selects RX9 yX9_planned yX9_planned, Cond.code yX9_planned cX9_planned 6 (some .int), Cond.fieldLink RX9 86 "TunnelRingModel" "bends" "I"]
def wsX9_bestPosition : List Cond := .code yX9_bestPosition cX9_bestPosition 5 (some .int) :: ((wsX9_bestPosition_r1 ++ (wsX9_bestPosition_r2 ++ wsX9_bestPosition_r3)) ++ wsX90 ++ (vx_atM "java/lang/ArrayIndexOutOfBoundsException" ["java/lang/IndexOutOfBoundsException", "java/lang/RuntimeException", "java/lang/Exception"]).filter goodWord)
def wsX9_least_r1 : List Cond := [Cond.fieldLink RX9 121 "TunnelRingModel" "rings" "I", Cond.constant RX9 189 (2147483647), Cond.fieldLink RX9 37 "TunnelRingModel" "stackTaper" "[I", Cond.methodLink RX9 194 Lib.Math.min.name, Cond.static Lib.Math.min.name, Cond.initialized "java/lang/Math", Cond.code Lib.Math.min.name Lib.Math.min.code 2 (some .int), Cond.methodLink RX9 153 yX9_apart, Cond.instanceMethod yX9_apart, Cond.selects RX9 yX9_apart yX9_apart, Cond.initialized RX9, Cond.code yX9_apart cX9_apart 4 (some .int), Cond.fieldLink RX9 16 "TunnelRingModel" "bendX" "[I", Cond.methodLink RX9 132 Lib.Math.abs.name, Cond.static Lib.Math.abs.name, Cond.code Lib.Math.abs.name Lib.Math.abs.code 1 (some .int), Cond.fieldLink RX9 19 "TunnelRingModel" "bendY" "[I", Cond.methodLink RX9 128 yX9_planned, Cond.instanceMethod yX9_planned, Cond.selects RX9 yX9_planned yX9_planned, Cond.code yX9_planned cX9_planned 6 (some .int), Cond.fieldLink RX9 86 "TunnelRingModel" "bends" "I", Cond.methodLink RX9 160 yX9_fits, Cond.static yX9_fits]
def wsX9_least_r2 : List Cond := [Cond.code yX9_fits cX9_fits 2 (some .boolean), Cond.methodLink RX9 141 yX9_across, Cond.static yX9_across, Cond.code yX9_across cX9_across 1 (some .int), Cond.methodLink RX9 150 yX9_up, Cond.static yX9_up, Cond.code yX9_up cX9_up 1 (some .int), Cond.methodLink RX9 190 yX9_least, Cond.instanceMethod yX9_least, Cond.selects RX9 yX9_least yX9_least]
def wsX9_least : List Cond := .code yX9_least cX9_least 13 (some .int) :: ((wsX9_least_r1 ++ wsX9_least_r2) ++ wsX90 ++ (vx_atM "java/lang/ArrayIndexOutOfBoundsException" ["java/lang/IndexOutOfBoundsException", "java/lang/RuntimeException", "java/lang/Exception"]).filter goodWord)
def wsX9_leastDeviation_r1 : List Cond := [Cond.fieldLink RX9 43 "TunnelRingModel" "height" "[I", Cond.fieldLink RX9 138 "TunnelRingModel" "headX" "I", Cond.fieldLink RX9 147 "TunnelRingModel" "headY" "I", Cond.methodLink RX9 96 yX9_isNoStack, Cond.instanceMethod yX9_isNoStack, Cond.selects RX9 yX9_isNoStack yX9_isNoStack, Cond.initialized RX9, Cond.code yX9_isNoStack cX9_isNoStack 2 (some .boolean), Cond.methodLink RX9 75 yX9_isIn, Cond.static yX9_isIn, Cond.code yX9_isIn cX9_isIn 3 (some .boolean), Cond.methodLink RX9 79 yX9_isThrown, Cond.instanceMethod yX9_isThrown, Cond.selects RX9 yX9_isThrown yX9_isThrown, Cond.code yX9_isThrown cX9_isThrown 3 (some .boolean), Cond.fieldLink RX9 72 "TunnelRingModel" "thrown" "I", Cond.methodLink RX9 99 yX9_top, Cond.instanceMethod yX9_top, Cond.selects RX9 yX9_top yX9_top, Cond.code yX9_top cX9_top 2 (some .int), Cond.methodLink RX9 157 yX9_before, Cond.instanceMethod yX9_before, Cond.selects RX9 yX9_before yX9_before, Cond.code yX9_before cX9_before 1 (some .int)]
def wsX9_leastDeviation_r2 : List Cond := [Cond.fieldLink RX9 121 "TunnelRingModel" "rings" "I", Cond.fieldLink RX9 25 "TunnelRingModel" "position" "[I", Cond.methodLink RX9 135 yX9_lastX, Cond.instanceMethod yX9_lastX, Cond.selects RX9 yX9_lastX yX9_lastX, Cond.code yX9_lastX cX9_lastX 1 (some .int), Cond.fieldLink RX9 31 "TunnelRingModel" "x" "[I", Cond.methodLink RX9 144 yX9_lastY, Cond.instanceMethod yX9_lastY, Cond.selects RX9 yX9_lastY yX9_lastY, Cond.code yX9_lastY cX9_lastY 1 (some .int), Cond.fieldLink RX9 34 "TunnelRingModel" "y" "[I", Cond.methodLink RX9 190 yX9_least, Cond.instanceMethod yX9_least, Cond.selects RX9 yX9_least yX9_least, Cond.code yX9_least cX9_least 13 (some .int), Cond.constant RX9 189 (2147483647), Cond.fieldLink RX9 37 "TunnelRingModel" "stackTaper" "[I", Cond.methodLink RX9 194 Lib.Math.min.name, Cond.static Lib.Math.min.name, Cond.initialized "java/lang/Math", Cond.code Lib.Math.min.name Lib.Math.min.code 2 (some .int), Cond.methodLink RX9 153 yX9_apart, Cond.instanceMethod yX9_apart]
def wsX9_leastDeviation_r3 : List Cond := [Cond.selects RX9 yX9_apart yX9_apart, Cond.code yX9_apart cX9_apart 4 (some .int), Cond.fieldLink RX9 16 "TunnelRingModel" "bendX" "[I", Cond.methodLink RX9 132 Lib.Math.abs.name, Cond.static Lib.Math.abs.name, Cond.code Lib.Math.abs.name Lib.Math.abs.code 1 (some .int), Cond.fieldLink RX9 19 "TunnelRingModel" "bendY" "[I", Cond.methodLink RX9 128 yX9_planned, Cond.instanceMethod yX9_planned, Cond.selects RX9 yX9_planned yX9_planned, Cond.code yX9_planned cX9_planned 6 (some .int), Cond.fieldLink RX9 86 "TunnelRingModel" "bends" "I", Cond.methodLink RX9 160 yX9_fits, Cond.static yX9_fits, Cond.code yX9_fits cX9_fits 2 (some .boolean), Cond.methodLink RX9 141 yX9_across, Cond.static yX9_across, Cond.code yX9_across cX9_across 1 (some .int), Cond.methodLink RX9 150 yX9_up, Cond.static yX9_up, Cond.code yX9_up cX9_up 1 (some .int)]
def wsX9_leastDeviation : List Cond := .code yX9_leastDeviation cX9_leastDeviation 3 (some .int) :: ((wsX9_leastDeviation_r1 ++ (wsX9_leastDeviation_r2 ++ wsX9_leastDeviation_r3)) ++ wsX90 ++ (vx_atM "java/lang/ArrayIndexOutOfBoundsException" ["java/lang/IndexOutOfBoundsException", "java/lang/RuntimeException", "java/lang/Exception"]).filter goodWord)
def wsX9_leastByTrying_r1 : List Cond := [Cond.methodLink RX9 197 yX9_leastDeviation, Cond.instanceMethod yX9_leastDeviation, Cond.selects RX9 yX9_leastDeviation yX9_leastDeviation, Cond.initialized RX9, Cond.code yX9_leastDeviation cX9_leastDeviation 3 (some .int), Cond.fieldLink RX9 43 "TunnelRingModel" "height" "[I", Cond.fieldLink RX9 138 "TunnelRingModel" "headX" "I", Cond.fieldLink RX9 147 "TunnelRingModel" "headY" "I", Cond.methodLink RX9 96 yX9_isNoStack, Cond.instanceMethod yX9_isNoStack, Cond.selects RX9 yX9_isNoStack yX9_isNoStack, Cond.code yX9_isNoStack cX9_isNoStack 2 (some .boolean), Cond.methodLink RX9 75 yX9_isIn, Cond.static yX9_isIn, Cond.code yX9_isIn cX9_isIn 3 (some .boolean), Cond.methodLink RX9 79 yX9_isThrown, Cond.instanceMethod yX9_isThrown, Cond.selects RX9 yX9_isThrown yX9_isThrown, Cond.code yX9_isThrown cX9_isThrown 3 (some .boolean), Cond.fieldLink RX9 72 "TunnelRingModel" "thrown" "I", Cond.methodLink RX9 99 yX9_top, Cond.instanceMethod yX9_top, Cond.selects RX9 yX9_top yX9_top, Cond.code yX9_top cX9_top 2 (some .int)]
def wsX9_leastByTrying_r2 : List Cond := [Cond.methodLink RX9 157 yX9_before, Cond.instanceMethod yX9_before, Cond.selects RX9 yX9_before yX9_before, Cond.code yX9_before cX9_before 1 (some .int), Cond.fieldLink RX9 121 "TunnelRingModel" "rings" "I", Cond.fieldLink RX9 25 "TunnelRingModel" "position" "[I", Cond.methodLink RX9 135 yX9_lastX, Cond.instanceMethod yX9_lastX, Cond.selects RX9 yX9_lastX yX9_lastX, Cond.code yX9_lastX cX9_lastX 1 (some .int), Cond.fieldLink RX9 31 "TunnelRingModel" "x" "[I", Cond.methodLink RX9 144 yX9_lastY, Cond.instanceMethod yX9_lastY, Cond.selects RX9 yX9_lastY yX9_lastY, Cond.code yX9_lastY cX9_lastY 1 (some .int), Cond.fieldLink RX9 34 "TunnelRingModel" "y" "[I", Cond.methodLink RX9 190 yX9_least, Cond.instanceMethod yX9_least, Cond.selects RX9 yX9_least yX9_least, Cond.code yX9_least cX9_least 13 (some .int), Cond.constant RX9 189 (2147483647), Cond.fieldLink RX9 37 "TunnelRingModel" "stackTaper" "[I", Cond.methodLink RX9 194 Lib.Math.min.name, Cond.static Lib.Math.min.name]
def wsX9_leastByTrying_r3 : List Cond := [Cond.initialized "java/lang/Math", Cond.code Lib.Math.min.name Lib.Math.min.code 2 (some .int), Cond.methodLink RX9 153 yX9_apart, Cond.instanceMethod yX9_apart, Cond.selects RX9 yX9_apart yX9_apart, Cond.code yX9_apart cX9_apart 4 (some .int), Cond.fieldLink RX9 16 "TunnelRingModel" "bendX" "[I", Cond.methodLink RX9 132 Lib.Math.abs.name, Cond.static Lib.Math.abs.name, Cond.code Lib.Math.abs.name Lib.Math.abs.code 1 (some .int), Cond.fieldLink RX9 19 "TunnelRingModel" "bendY" "[I", Cond.methodLink RX9 128 yX9_planned, Cond.instanceMethod yX9_planned, Cond.selects RX9 yX9_planned yX9_planned, Cond.code yX9_planned cX9_planned 6 (some .int), Cond.fieldLink RX9 86 "TunnelRingModel" "bends" "I", Cond.methodLink RX9 160 yX9_fits, Cond.static yX9_fits, Cond.code yX9_fits cX9_fits 2 (some .boolean), Cond.methodLink RX9 141 yX9_across, Cond.static yX9_across, Cond.code yX9_across cX9_across 1 (some .int), Cond.methodLink RX9 150 yX9_up, Cond.static yX9_up]
def wsX9_leastByTrying_r4 : List Cond := [Cond.code yX9_up cX9_up 1 (some .int)]
def wsX9_leastByTrying : List Cond := .code yX9_leastByTrying cX9_leastByTrying 3 (some .int) :: ((wsX9_leastByTrying_r1 ++ (wsX9_leastByTrying_r2 ++ (wsX9_leastByTrying_r3 ++ wsX9_leastByTrying_r4))) ++ wsX90 ++ (vx_atM "java/lang/ArrayIndexOutOfBoundsException" ["java/lang/IndexOutOfBoundsException", "java/lang/RuntimeException", "java/lang/Exception"]).filter goodWord)
def wsX9_sinkingAt : List Cond := .code yX9_sinkingAt cX9_sinkingAt 2 (some .int) :: ([.fieldLink RX9 22 "TunnelRingModel" "sunk" "[I", .methodLink RX9 89 yX9_isNoGround, .instanceMethod yX9_isNoGround, .selects RX9 yX9_isNoGround yX9_isNoGround, .initialized RX9, .code yX9_isNoGround cX9_isNoGround 2 (some .boolean), .fieldLink RX9 83 "TunnelRingModel" "grounds" "I", .methodLink RX9 75 yX9_isIn, .static yX9_isIn, .code yX9_isIn cX9_isIn 3 (some .boolean), .methodLink RX9 79 yX9_isThrown, .instanceMethod yX9_isThrown, .selects RX9 yX9_isThrown yX9_isThrown, .code yX9_isThrown cX9_isThrown 3 (some .boolean), .fieldLink RX9 72 "TunnelRingModel" "thrown" "I"] ++ wsX90 ++ (vx_atM "java/lang/ArrayIndexOutOfBoundsException" ["java/lang/IndexOutOfBoundsException", "java/lang/RuntimeException", "java/lang/Exception"]).filter goodWord)
def wsX9_isNoHouse : List Cond := .code yX9_isNoHouse cX9_isNoHouse 2 (some .boolean) :: ([.fieldLink RX9 93 "TunnelRingModel" "houses" "I", .methodLink RX9 75 yX9_isIn, .static yX9_isIn, .initialized RX9, .code yX9_isIn cX9_isIn 3 (some .boolean), .methodLink RX9 79 yX9_isThrown, .instanceMethod yX9_isThrown, .selects RX9 yX9_isThrown yX9_isThrown, .code yX9_isThrown cX9_isThrown 3 (some .boolean), .fieldLink RX9 72 "TunnelRingModel" "thrown" "I"] ++ wsX90)
def wsX9_most : List Cond := .code yX9_most cX9_most 4 (some .int) :: ([.fieldLink RX9 46 "TunnelRingModel" "first" "[I", .fieldLink RX9 49 "TunnelRingModel" "last" "[I", .fieldLink RX9 22 "TunnelRingModel" "sunk" "[I", .methodLink RX9 106 Lib.Math.max.name, .static Lib.Math.max.name, .initialized "java/lang/Math", .code Lib.Math.max.name Lib.Math.max.code 2 (some .int)] ++ wsX90 ++ (vx_atM "java/lang/ArrayIndexOutOfBoundsException" ["java/lang/IndexOutOfBoundsException", "java/lang/RuntimeException", "java/lang/Exception"]).filter goodWord)
def wsX9_sinkingOf_r1 : List Cond := [Cond.methodLink RX9 200 yX9_isNoHouse, Cond.instanceMethod yX9_isNoHouse, Cond.selects RX9 yX9_isNoHouse yX9_isNoHouse, Cond.initialized RX9, Cond.code yX9_isNoHouse cX9_isNoHouse 2 (some .boolean), Cond.fieldLink RX9 93 "TunnelRingModel" "houses" "I", Cond.methodLink RX9 75 yX9_isIn, Cond.static yX9_isIn, Cond.code yX9_isIn cX9_isIn 3 (some .boolean), Cond.methodLink RX9 79 yX9_isThrown, Cond.instanceMethod yX9_isThrown, Cond.selects RX9 yX9_isThrown yX9_isThrown, Cond.code yX9_isThrown cX9_isThrown 3 (some .boolean), Cond.fieldLink RX9 72 "TunnelRingModel" "thrown" "I", Cond.methodLink RX9 203 yX9_most, Cond.instanceMethod yX9_most, Cond.selects RX9 yX9_most yX9_most, Cond.code yX9_most cX9_most 4 (some .int), Cond.fieldLink RX9 46 "TunnelRingModel" "first" "[I", Cond.fieldLink RX9 49 "TunnelRingModel" "last" "[I", Cond.fieldLink RX9 22 "TunnelRingModel" "sunk" "[I", Cond.methodLink RX9 106 Lib.Math.max.name, Cond.static Lib.Math.max.name, Cond.initialized "java/lang/Math"]
def wsX9_sinkingOf_r2 : List Cond := [Cond.code Lib.Math.max.name Lib.Math.max.code 2 (some .int)]
def wsX9_sinkingOf : List Cond := .code yX9_sinkingOf cX9_sinkingOf 2 (some .int) :: ((wsX9_sinkingOf_r1 ++ wsX9_sinkingOf_r2) ++ wsX90 ++ (vx_atM "java/lang/ArrayIndexOutOfBoundsException" ["java/lang/IndexOutOfBoundsException", "java/lang/RuntimeException", "java/lang/Exception"]).filter goodWord)
def wsX9_tiltOf_r1 : List Cond := [Cond.fieldLink RX9 46 "TunnelRingModel" "first" "[I", Cond.fieldLink RX9 49 "TunnelRingModel" "last" "[I", Cond.fieldLink RX9 22 "TunnelRingModel" "sunk" "[I", Cond.methodLink RX9 194 Lib.Math.min.name, Cond.static Lib.Math.min.name, Cond.initialized "java/lang/Math", Cond.code Lib.Math.min.name Lib.Math.min.code 2 (some .int), Cond.methodLink RX9 200 yX9_isNoHouse, Cond.instanceMethod yX9_isNoHouse, Cond.selects RX9 yX9_isNoHouse yX9_isNoHouse, Cond.initialized RX9, Cond.code yX9_isNoHouse cX9_isNoHouse 2 (some .boolean), Cond.fieldLink RX9 93 "TunnelRingModel" "houses" "I", Cond.methodLink RX9 75 yX9_isIn, Cond.static yX9_isIn, Cond.code yX9_isIn cX9_isIn 3 (some .boolean), Cond.methodLink RX9 79 yX9_isThrown, Cond.instanceMethod yX9_isThrown, Cond.selects RX9 yX9_isThrown yX9_isThrown, Cond.code yX9_isThrown cX9_isThrown 3 (some .boolean), Cond.fieldLink RX9 72 "TunnelRingModel" "thrown" "I", Cond.methodLink RX9 203 yX9_most, Cond.instanceMethod yX9_most, Cond.selects RX9 yX9_most yX9_most]
def wsX9_tiltOf_r2 : List Cond := [Cond.code yX9_most cX9_most 4 (some .int), Cond.methodLink RX9 106 Lib.Math.max.name, Cond.static Lib.Math.max.name, Cond.code Lib.Math.max.name Lib.Math.max.code 2 (some .int)]
def wsX9_tiltOf : List Cond := .code yX9_tiltOf cX9_tiltOf 4 (some .int) :: ((wsX9_tiltOf_r1 ++ wsX9_tiltOf_r2) ++ wsX90 ++ (vx_atM "java/lang/ArrayIndexOutOfBoundsException" ["java/lang/IndexOutOfBoundsException", "java/lang/RuntimeException", "java/lang/Exception"]).filter goodWord)
def wsX9_owed : List Cond := .code yX9_owed cX9_owed 2 (some .int) :: ([.fieldLink RX9 52 "TunnelRingModel" "limit" "[I", .methodLink RX9 106 Lib.Math.max.name, .static Lib.Math.max.name, .initialized "java/lang/Math", .code Lib.Math.max.name Lib.Math.max.code 2 (some .int), .fieldLink RX9 55 "TunnelRingModel" "rate" "[I", .fieldLink RX9 58 "TunnelRingModel" "paid" "[I", .methodLink RX9 203 yX9_most, .instanceMethod yX9_most, .selects RX9 yX9_most yX9_most, .initialized RX9, .code yX9_most cX9_most 4 (some .int), .fieldLink RX9 46 "TunnelRingModel" "first" "[I", .fieldLink RX9 49 "TunnelRingModel" "last" "[I", .fieldLink RX9 22 "TunnelRingModel" "sunk" "[I"] ++ wsX90 ++ (vx_atM "java/lang/ArrayIndexOutOfBoundsException" ["java/lang/IndexOutOfBoundsException", "java/lang/RuntimeException", "java/lang/Exception"]).filter goodWord)
def wsX9_claimOf_r1 : List Cond := [Cond.methodLink RX9 200 yX9_isNoHouse, Cond.instanceMethod yX9_isNoHouse, Cond.selects RX9 yX9_isNoHouse yX9_isNoHouse, Cond.initialized RX9, Cond.code yX9_isNoHouse cX9_isNoHouse 2 (some .boolean), Cond.fieldLink RX9 93 "TunnelRingModel" "houses" "I", Cond.methodLink RX9 75 yX9_isIn, Cond.static yX9_isIn, Cond.code yX9_isIn cX9_isIn 3 (some .boolean), Cond.methodLink RX9 79 yX9_isThrown, Cond.instanceMethod yX9_isThrown, Cond.selects RX9 yX9_isThrown yX9_isThrown, Cond.code yX9_isThrown cX9_isThrown 3 (some .boolean), Cond.fieldLink RX9 72 "TunnelRingModel" "thrown" "I", Cond.methodLink RX9 206 yX9_owed, Cond.instanceMethod yX9_owed, Cond.selects RX9 yX9_owed yX9_owed, Cond.code yX9_owed cX9_owed 2 (some .int), Cond.fieldLink RX9 52 "TunnelRingModel" "limit" "[I", Cond.methodLink RX9 106 Lib.Math.max.name, Cond.static Lib.Math.max.name, Cond.initialized "java/lang/Math", Cond.code Lib.Math.max.name Lib.Math.max.code 2 (some .int), Cond.fieldLink RX9 55 "TunnelRingModel" "rate" "[I"]
def wsX9_claimOf_r2 : List Cond := [Cond.fieldLink RX9 58 "TunnelRingModel" "paid" "[I", Cond.methodLink RX9 203 yX9_most, Cond.instanceMethod yX9_most, Cond.selects RX9 yX9_most yX9_most, Cond.code yX9_most cX9_most 4 (some .int), Cond.fieldLink RX9 46 "TunnelRingModel" "first" "[I", Cond.fieldLink RX9 49 "TunnelRingModel" "last" "[I", Cond.fieldLink RX9 22 "TunnelRingModel" "sunk" "[I"]
def wsX9_claimOf : List Cond := .code yX9_claimOf cX9_claimOf 2 (some .int) :: ((wsX9_claimOf_r1 ++ wsX9_claimOf_r2) ++ wsX90 ++ (vx_atM "java/lang/ArrayIndexOutOfBoundsException" ["java/lang/IndexOutOfBoundsException", "java/lang/RuntimeException", "java/lang/Exception"]).filter goodWord)
def wsX9_claim_r1 : List Cond := [Cond.fieldLink RX9 58 "TunnelRingModel" "paid" "[I", Cond.methodLink RX9 200 yX9_isNoHouse, Cond.instanceMethod yX9_isNoHouse, Cond.selects RX9 yX9_isNoHouse yX9_isNoHouse, Cond.initialized RX9, Cond.code yX9_isNoHouse cX9_isNoHouse 2 (some .boolean), Cond.fieldLink RX9 93 "TunnelRingModel" "houses" "I", Cond.methodLink RX9 75 yX9_isIn, Cond.static yX9_isIn, Cond.code yX9_isIn cX9_isIn 3 (some .boolean), Cond.methodLink RX9 79 yX9_isThrown, Cond.instanceMethod yX9_isThrown, Cond.selects RX9 yX9_isThrown yX9_isThrown, Cond.code yX9_isThrown cX9_isThrown 3 (some .boolean), Cond.fieldLink RX9 72 "TunnelRingModel" "thrown" "I", Cond.methodLink RX9 206 yX9_owed, Cond.instanceMethod yX9_owed, Cond.selects RX9 yX9_owed yX9_owed, Cond.code yX9_owed cX9_owed 2 (some .int), Cond.fieldLink RX9 52 "TunnelRingModel" "limit" "[I", Cond.methodLink RX9 106 Lib.Math.max.name, Cond.static Lib.Math.max.name, Cond.initialized "java/lang/Math", Cond.code Lib.Math.max.name Lib.Math.max.code 2 (some .int)]
def wsX9_claim_r2 : List Cond := [Cond.fieldLink RX9 55 "TunnelRingModel" "rate" "[I", Cond.methodLink RX9 203 yX9_most, Cond.instanceMethod yX9_most, Cond.selects RX9 yX9_most yX9_most, Cond.code yX9_most cX9_most 4 (some .int), Cond.fieldLink RX9 46 "TunnelRingModel" "first" "[I", Cond.fieldLink RX9 49 "TunnelRingModel" "last" "[I", Cond.fieldLink RX9 22 "TunnelRingModel" "sunk" "[I"]
def wsX9_claim : List Cond := .code yX9_claim cX9_claim 3 (some .int) :: ((wsX9_claim_r1 ++ wsX9_claim_r2) ++ wsX90 ++ (vx_atM "java/lang/ArrayIndexOutOfBoundsException" ["java/lang/IndexOutOfBoundsException", "java/lang/RuntimeException", "java/lang/Exception"]).filter goodWord)
def wsX9_paidTo : List Cond := .code yX9_paidTo cX9_paidTo 2 (some .int) :: ([.fieldLink RX9 58 "TunnelRingModel" "paid" "[I", .methodLink RX9 200 yX9_isNoHouse, .instanceMethod yX9_isNoHouse, .selects RX9 yX9_isNoHouse yX9_isNoHouse, .initialized RX9, .code yX9_isNoHouse cX9_isNoHouse 2 (some .boolean), .fieldLink RX9 93 "TunnelRingModel" "houses" "I", .methodLink RX9 75 yX9_isIn, .static yX9_isIn, .code yX9_isIn cX9_isIn 3 (some .boolean), .methodLink RX9 79 yX9_isThrown, .instanceMethod yX9_isThrown, .selects RX9 yX9_isThrown yX9_isThrown, .code yX9_isThrown cX9_isThrown 3 (some .boolean), .fieldLink RX9 72 "TunnelRingModel" "thrown" "I"] ++ wsX90 ++ (vx_atM "java/lang/ArrayIndexOutOfBoundsException" ["java/lang/IndexOutOfBoundsException", "java/lang/RuntimeException", "java/lang/Exception"]).filter goodWord)
def wsX9_paidTotal : List Cond := .code yX9_paidTotal cX9_paidTotal 4 (some .long) :: ([.fieldLink RX9 72 "TunnelRingModel" "thrown" "I", .fieldLink RX9 93 "TunnelRingModel" "houses" "I", .fieldLink RX9 58 "TunnelRingModel" "paid" "[I"] ++ wsX90 ++ (vx_atM "java/lang/ArrayIndexOutOfBoundsException" ["java/lang/IndexOutOfBoundsException", "java/lang/RuntimeException", "java/lang/Exception"]).filter goodWord)
def wsX9_worstHouse : List Cond := .code yX9_worstHouse cX9_worstHouse 3 (some .int) :: ([.fieldLink RX9 93 "TunnelRingModel" "houses" "I", .methodLink RX9 203 yX9_most, .instanceMethod yX9_most, .selects RX9 yX9_most yX9_most, .initialized RX9, .code yX9_most cX9_most 4 (some .int), .fieldLink RX9 46 "TunnelRingModel" "first" "[I", .fieldLink RX9 49 "TunnelRingModel" "last" "[I", .fieldLink RX9 22 "TunnelRingModel" "sunk" "[I", .methodLink RX9 106 Lib.Math.max.name, .static Lib.Math.max.name, .initialized "java/lang/Math", .code Lib.Math.max.name Lib.Math.max.code 2 (some .int), .methodLink RX9 79 yX9_isThrown, .instanceMethod yX9_isThrown, .selects RX9 yX9_isThrown yX9_isThrown, .code yX9_isThrown cX9_isThrown 3 (some .boolean), .fieldLink RX9 72 "TunnelRingModel" "thrown" "I"] ++ wsX90 ++ (vx_atM "java/lang/ArrayIndexOutOfBoundsException" ["java/lang/IndexOutOfBoundsException", "java/lang/RuntimeException", "java/lang/Exception"]).filter goodWord)
def wsX9_meanSinking : List Cond := .code yX9_meanSinking cX9_meanSinking 3 (some .double) :: ([.fieldLink RX9 121 "TunnelRingModel" "rings" "I", .fieldLink RX9 22 "TunnelRingModel" "sunk" "[I", .methodLink RX9 79 yX9_isThrown, .instanceMethod yX9_isThrown, .selects RX9 yX9_isThrown yX9_isThrown, .initialized RX9, .code yX9_isThrown cX9_isThrown 3 (some .boolean), .fieldLink RX9 72 "TunnelRingModel" "thrown" "I"] ++ wsX90 ++ (vx_atM "java/lang/ArrayIndexOutOfBoundsException" ["java/lang/IndexOutOfBoundsException", "java/lang/RuntimeException", "java/lang/Exception"]).filter goodWord)
def wsX9_isConsistent : List Cond := .code yX9_isConsistent cX9_isConsistent 1 (some .boolean) :: ([.fieldLink RX9 72 "TunnelRingModel" "thrown" "I"] ++ wsX90)
def wsX9_writes : List Cond := .code yX9_writes cX9_writes 2 none :: ([.fieldLink RX9 61 "TunnelRingModel" "line" "[C", .fieldLink RX9 209 "TunnelRingModel" "written" "I"] ++ wsX90 ++ (vx_atM "java/lang/ArrayIndexOutOfBoundsException" ["java/lang/IndexOutOfBoundsException", "java/lang/RuntimeException", "java/lang/Exception"]).filter goodWord)
def wsX9_writeRings : List Cond := .code yX9_writeRings cX9_writeRings 3 (some .int) :: ([.fieldLink RX9 209 "TunnelRingModel" "written" "I", .fieldLink RX9 121 "TunnelRingModel" "rings" "I", .fieldLink RX9 25 "TunnelRingModel" "position" "[I", .fieldLink RX9 28 "TunnelRingModel" "taper" "[I", .methodLink RX9 178 yX9_isNoRing, .instanceMethod yX9_isNoRing, .selects RX9 yX9_isNoRing yX9_isNoRing, .initialized RX9, .code yX9_isNoRing cX9_isNoRing 2 (some .boolean), .methodLink RX9 75 yX9_isIn, .static yX9_isIn, .code yX9_isIn cX9_isIn 3 (some .boolean), .methodLink RX9 79 yX9_isThrown, .instanceMethod yX9_isThrown, .selects RX9 yX9_isThrown yX9_isThrown, .code yX9_isThrown cX9_isThrown 3 (some .boolean), .fieldLink RX9 72 "TunnelRingModel" "thrown" "I", .methodLink RX9 212 yX9_writes, .instanceMethod yX9_writes, .selects RX9 yX9_writes yX9_writes, .code yX9_writes cX9_writes 2 none, .fieldLink RX9 61 "TunnelRingModel" "line" "[C"] ++ wsX90 ++ (vx_atM "java/lang/ArrayIndexOutOfBoundsException" ["java/lang/IndexOutOfBoundsException", "java/lang/RuntimeException", "java/lang/Exception"]).filter goodWord)
def wsX9_lineAt : List Cond := .code yX9_lineAt cX9_lineAt 2 (some .char) :: ([.fieldLink RX9 209 "TunnelRingModel" "written" "I", .fieldLink RX9 61 "TunnelRingModel" "line" "[C", .methodLink RX9 75 yX9_isIn, .static yX9_isIn, .initialized RX9, .code yX9_isIn cX9_isIn 3 (some .boolean), .methodLink RX9 79 yX9_isThrown, .instanceMethod yX9_isThrown, .selects RX9 yX9_isThrown yX9_isThrown, .code yX9_isThrown cX9_isThrown 3 (some .boolean), .fieldLink RX9 72 "TunnelRingModel" "thrown" "I"] ++ wsX90 ++ (vx_atM "java/lang/ArrayIndexOutOfBoundsException" ["java/lang/IndexOutOfBoundsException", "java/lang/RuntimeException", "java/lang/Exception"]).filter goodWord)
def wsJx00060_init_a7421 : List Cond := .code yJx00060_init_a7421 cJx00060_init_a7421 2 none :: ([])
def wsJ9_abs_0f7a4 : List Cond := .code yJ9_abs_0f7a4 cJ9_abs_0f7a4 1 (some .int) :: ([])
def wsJ9_max_7cf53 : List Cond := .code yJ9_max_7cf53 cJ9_max_7cf53 2 (some .int) :: ([])
def wsJ9_min_7cf53 : List Cond := .code yJ9_min_7cf53 cJ9_min_7cf53 2 (some .int) :: ([])
abbrev vwCl : List vw_C := [(RJ0, TJ0, 2), (RJx00060, TJx00060, 6), (RX0, TX0, 4), (RX1, TX1, 4), (RX2, TX2, 6), (RX3, TX3, 3), (RX4, TX4, 6), (RX5, TX5, 2), (RX6, TX6, 6), (RX7, TX7, 3), (RX8, TX8, 12), (RX9, TX9, 30)]
end
section
/-! Ints: every int of the walks is iI of an Int; rows are of an Int function. -/
def iI (a : Int) : Int32 := Int32.ofInt a
theorem iI_add (a b : Int) : iI a + iI b = iI (a + b) := (Int32.ofInt_add a b).symm
theorem iI_sub (a b : Int) : iI a - iI b = iI (a - b) := (Int32.ofInt_sub a b).symm
theorem iI_mul (a b : Int) : iI a * iI b = iI (a * b) := (Int32.ofInt_mul a b).symm
/-- in the range of an int -/
abbrev iR (a : Int) : Prop := -2147483648 ≤ a ∧ a ≤ 2147483647
theorem iI_toInt {a : Int} (h : iR a) : (iI a).toInt = a := Int32.toInt_ofInt_of_le (by omega) (by omega)
theorem iI_of (x : Int32) : iI x.toInt = x := Int32.ofInt_toInt x
theorem iR_toInt (x : Int32) : iR x.toInt := ⟨by have := Int32.le_toInt x; omega, by have := Int32.toInt_lt x; omega⟩
theorem iI_inj {a b : Int} (ha : iR a) (hb : iR b) : iI a = iI b ↔ a = b := by
  constructor
  · intro h
    have h2 := congrArg Int32.toInt h
    rwa [iI_toInt ha, iI_toInt hb] at h2
  · intro h; rw [h]
theorem iI_le {a b : Int} (ha : iR a) (hb : iR b) : iI a ≤ iI b ↔ a ≤ b := by
  rw [Int32.le_iff_toInt_le, iI_toInt ha, iI_toInt hb]
theorem iI_lt {a b : Int} (ha : iR a) (hb : iR b) : iI a < iI b ↔ a < b := by
  rw [Int32.lt_iff_toInt_lt, iI_toInt ha, iI_toInt hb]
theorem iI_0 : iI 0 = 0 := rfl
theorem iI_idx {a : Int} (h0 : 0 ≤ a) (h : a ≤ 2147483647) : (iI a).toNatClampNeg = a.toNat := Int32.toNatClampNeg_ofInt_of_le (by omega) (by omega)
theorem iI_in {a : Int} {n : Nat} (h0 : 0 ≤ a) (h : a < n) (h2 : a ≤ 2147483647) : vp_in (iI a) n := by
  unfold vp_in
  rw [iI_idx h0 h2, show (0 : Int32) = iI 0 from rfl, iI_lt ⟨by omega, by omega⟩ ⟨by omega, by omega⟩]
  omega
/-- what a row of ints holds, by an Int function -/
def ar (F : Int → Int) : Nat → Int32 := fun j => iI (F (j : Int))
def up (F : Int → Int) (k v : Int) : Int → Int := fun j => if j = k then v else F j
theorem up_eq (F : Int → Int) (k v : Int) : up F k v k = v := by simp [up]
theorem up_ne (F : Int → Int) {k j : Int} (v : Int) (h : j ≠ k) : up F k v j = F j := by simp [up, h]
theorem ar_at (F : Int → Int) {i : Int} (h0 : 0 ≤ i) (h : i ≤ 2147483647) : ar F (iI i).toNatClampNeg = iI (F i) := by
  rw [iI_idx h0 h]; unfold ar; rw [Int.toNat_of_nonneg h0]
theorem ar_up (F : Int → Int) {i : Int} (v : Int) (h0 : 0 ≤ i) (h : i ≤ 2147483647) : upd (ar F) (iI i).toNatClampNeg (iI v) = ar (up F i v) := by
  rw [iI_idx h0 h]; funext j; unfold upd ar up
  by_cases hj : j = i.toNat
  · rw [if_pos hj, if_pos (by omega)]
  · rw [if_neg hj, if_neg (by omega)]
/-- a boolean -/
def bI (P : Prop) [Decidable P] : Int := if P then 1 else 0
theorem bI_t {P : Prop} [Decidable P] (h : P) : bI P = 1 := if_pos h
theorem bI_f {P : Prop} [Decidable P] (h : ¬ P) : bI P = 0 := if_neg h
theorem bI_0 {P : Prop} [Decidable P] : bI P = 0 ↔ ¬ P := by unfold bI; split <;> simp_all
theorem bI_1 {P : Prop} [Decidable P] : bI P = 1 ↔ P := by unfold bI; split <;> simp_all
theorem bI_r {P : Prop} [Decidable P] : 0 ≤ bI P ∧ bI P ≤ 1 := by unfold bI; split <;> omega
section XW
variable {p : Program} {l : Launch} {e : Env} {R : Room} {s : State} {m : MethodId} {args : Array Value} {below : List Frame} {meth : Method} {c : Code} {H : Heap} {locs : List Loc} {cells slots : Nat} {Q : State → Prop}
variable {cc : ByteArray} {pc : Nat} {ls : Array Slot} {rest : List Value}
theorem x_iadd (hx : p.tables.exec = Jvm.exec) (hb : c.code = cc) {a b : Int} (d : decode cc pc = .ok (.iadd, 1)) (k : W p l e R s m args below meth c H locs cells slots Q (F0 m (pc + 1) ls (.int (iI (a + b)) :: rest))) : W p l e R s m args below meth c H locs cells slots Q (F0 m pc ls (.int (iI b) :: .int (iI a) :: rest)) := lv_iadd hx hb d (by rw [iI_add]; exact k)
theorem x_isub (hx : p.tables.exec = Jvm.exec) (hb : c.code = cc) {a b : Int} (d : decode cc pc = .ok (.isub, 1)) (k : W p l e R s m args below meth c H locs cells slots Q (F0 m (pc + 1) ls (.int (iI (a - b)) :: rest))) : W p l e R s m args below meth c H locs cells slots Q (F0 m pc ls (.int (iI b) :: .int (iI a) :: rest)) := lv_isub hx hb d (by rw [iI_sub]; exact k)
theorem x_imul (hx : p.tables.exec = Jvm.exec) (hb : c.code = cc) {a b : Int} (d : decode cc pc = .ok (.imul, 1)) (k : W p l e R s m args below meth c H locs cells slots Q (F0 m (pc + 1) ls (.int (iI (a * b)) :: rest))) : W p l e R s m args below meth c H locs cells slots Q (F0 m pc ls (.int (iI b) :: .int (iI a) :: rest)) := lv_imul hx hb d (by rw [iI_mul]; exact k)
theorem x_idiv (hx : p.tables.exec = Jvm.exec) (hb : c.code = cc) {a b : Int} (ha : 0 ≤ a ∧ a ≤ 2147483647) (hd : 0 < b ∧ b ≤ 2147483647) (d : decode cc pc = .ok (.idiv, 1)) (k : W p l e R s m args below meth c H locs cells slots Q (F0 m (pc + 1) ls (.int (iI (a / b)) :: rest))) : W p l e R s m args below meth c H locs cells slots Q (F0 m pc ls (.int (iI b) :: .int (iI a) :: rest)) := by
  refine lv_idiv hx hb d ?_ ?_
  · rw [show (0 : Int32) = iI 0 from rfl, iI_inj ⟨by omega, by omega⟩ ⟨by omega, by omega⟩]; omega
  · have e : iI a / iI b = iI (a / b) := by
      rw [← Int.tdiv_eq_ediv_of_nonneg ha.1]
      exact (Int32.ofInt_tdiv (by show (-2147483648 : Int) ≤ a; omega) (by show a ≤ (2147483647 : Int); omega) (by show (-2147483648 : Int) ≤ b; omega) (by show b ≤ (2147483647 : Int); omega)).symm
    rw [e]; exact k
theorem x_irem (hx : p.tables.exec = Jvm.exec) (hb : c.code = cc) {a b : Int} (ha : 0 ≤ a ∧ a ≤ 2147483647) (hd : 0 < b ∧ b ≤ 2147483647) (d : decode cc pc = .ok (.irem, 1)) (k : W p l e R s m args below meth c H locs cells slots Q (F0 m (pc + 1) ls (.int (iI (a % b)) :: rest))) : W p l e R s m args below meth c H locs cells slots Q (F0 m pc ls (.int (iI b) :: .int (iI a) :: rest)) := by
  refine lv_irem hx hb d ?_ ?_
  · rw [show (0 : Int32) = iI 0 from rfl, iI_inj ⟨by omega, by omega⟩ ⟨by omega, by omega⟩]; omega
  · have e : iI a / iI b = iI (a / b) := by
      rw [← Int.tdiv_eq_ediv_of_nonneg ha.1]
      exact (Int32.ofInt_tdiv (by show (-2147483648 : Int) ≤ a; omega) (by show a ≤ (2147483647 : Int); omega) (by show (-2147483648 : Int) ≤ b; omega) (by show b ≤ (2147483647 : Int); omega)).symm
    rw [e, iI_mul, iI_sub, show a - a / b * b = a % b by rw [Int.emod_def, Int.mul_comm b]]; exact k
theorem x_iconst (hx : p.tables.exec = Jvm.exec) (hb : c.code = cc) {n : Int} (d : decode cc pc = .ok (.iconst n, 1)) (k : W p l e R s m args below meth c H locs cells slots Q (F0 m (pc + 1) ls (.int (iI n) :: rest))) : W p l e R s m args below meth c H locs cells slots Q (F0 m pc ls rest) := lv_iconst hx hb d rfl k
theorem x_bipush (hx : p.tables.exec = Jvm.exec) (hb : c.code = cc) {n : Int} (d : decode cc pc = .ok (.bipush n, 2)) (hn : (Int8.ofInt n).toInt32 = iI n) (k : W p l e R s m args below meth c H locs cells slots Q (F0 m (pc + 2) ls (.int (iI n) :: rest))) : W p l e R s m args below meth c H locs cells slots Q (F0 m pc ls rest) := lv_bipush hx hb d hn k
theorem x_sipush (hx : p.tables.exec = Jvm.exec) (hb : c.code = cc) {n : Int} (d : decode cc pc = .ok (.sipush n, 3)) (hn : (Int16.ofInt n).toInt32 = iI n) (k : W p l e R s m args below meth c H locs cells slots Q (F0 m (pc + 3) ls (.int (iI n) :: rest))) : W p l e R s m args below meth c H locs cells slots Q (F0 m pc ls rest) := lv_sipush hx hb d hn k
theorem x_iinc (hx : p.tables.exec = Jvm.exec) (hb : c.code = cc) {i nL k : Nat} {n a : Int} {lv lv' : List (Nat × Value)} (d : decode cc pc = .ok (.iinc i n, 3)) (h : lv_has ls nL lv) (hk : lv[k]? = some (i, .int (iI a))) (hn : i < nL) (hl : (i, Value.int (iI (a + n))) :: lv.filter (fun q => !(q.1 == i) && !(q.1 + 1 == i && q.2.category == 2)) = lv')
    (kk : ∀ ls' : Array Slot, lv_has ls' nL lv' → W p l e R s m args below meth c H locs cells slots Q (F0 m (pc + 3) ls' rest)) : W p l e R s m args below meth c H locs cells slots Q (F0 m pc ls rest) :=
  lv_iinc hx hb d h hk (iI_add a n) hn hl kk
theorem x_cmp_lt (hx : p.tables.exec = Jvm.exec) (hb : c.code = cc) {a b off : Int} {tgt : Nat} (ha : iR a) (hc : iR b) (d : decode cc pc = .ok (.if_icmp .lt off, 3)) (ht : (pc : Int) + off = (tgt : Int)) (kt : a < b → W p l e R s m args below meth c H locs cells slots Q (F0 m tgt ls rest)) (kf : ¬ a < b → W p l e R s m args below meth c H locs cells slots Q (F0 m (pc + 3) ls rest)) : W p l e R s m args below meth c H locs cells slots Q (F0 m pc ls (.int (iI b) :: .int (iI a) :: rest)) :=
  lv_icmp_lt hx hb d ht (fun h => kt ((iI_lt ha hc).mp h)) (fun h => kf (fun q => h ((iI_lt ha hc).mpr q)))
theorem x_cmp_ge (hx : p.tables.exec = Jvm.exec) (hb : c.code = cc) {a b off : Int} {tgt : Nat} (ha : iR a) (hc : iR b) (d : decode cc pc = .ok (.if_icmp .ge off, 3)) (ht : (pc : Int) + off = (tgt : Int)) (kt : b ≤ a → W p l e R s m args below meth c H locs cells slots Q (F0 m tgt ls rest)) (kf : ¬ b ≤ a → W p l e R s m args below meth c H locs cells slots Q (F0 m (pc + 3) ls rest)) : W p l e R s m args below meth c H locs cells slots Q (F0 m pc ls (.int (iI b) :: .int (iI a) :: rest)) :=
  lv_icmp_ge hx hb d ht (fun h => kt ((iI_le hc ha).mp h)) (fun h => kf (fun q => h ((iI_le hc ha).mpr q)))
theorem x_cmp_gt (hx : p.tables.exec = Jvm.exec) (hb : c.code = cc) {a b off : Int} {tgt : Nat} (ha : iR a) (hc : iR b) (d : decode cc pc = .ok (.if_icmp .gt off, 3)) (ht : (pc : Int) + off = (tgt : Int)) (kt : b < a → W p l e R s m args below meth c H locs cells slots Q (F0 m tgt ls rest)) (kf : ¬ b < a → W p l e R s m args below meth c H locs cells slots Q (F0 m (pc + 3) ls rest)) : W p l e R s m args below meth c H locs cells slots Q (F0 m pc ls (.int (iI b) :: .int (iI a) :: rest)) :=
  lv_icmp_gt hx hb d ht (fun h => kt ((iI_lt hc ha).mp h)) (fun h => kf (fun q => h ((iI_lt hc ha).mpr q)))
theorem x_cmp_le (hx : p.tables.exec = Jvm.exec) (hb : c.code = cc) {a b off : Int} {tgt : Nat} (ha : iR a) (hc : iR b) (d : decode cc pc = .ok (.if_icmp .le off, 3)) (ht : (pc : Int) + off = (tgt : Int)) (kt : a ≤ b → W p l e R s m args below meth c H locs cells slots Q (F0 m tgt ls rest)) (kf : ¬ a ≤ b → W p l e R s m args below meth c H locs cells slots Q (F0 m (pc + 3) ls rest)) : W p l e R s m args below meth c H locs cells slots Q (F0 m pc ls (.int (iI b) :: .int (iI a) :: rest)) :=
  lv_icmp_le hx hb d ht (fun h => kt ((iI_le ha hc).mp h)) (fun h => kf (fun q => h ((iI_le ha hc).mpr q)))
theorem x_cmp_eq (hx : p.tables.exec = Jvm.exec) (hb : c.code = cc) {a b off : Int} {tgt : Nat} (ha : iR a) (hc : iR b) (d : decode cc pc = .ok (.if_icmp .eq off, 3)) (ht : (pc : Int) + off = (tgt : Int)) (kt : a = b → W p l e R s m args below meth c H locs cells slots Q (F0 m tgt ls rest)) (kf : ¬ a = b → W p l e R s m args below meth c H locs cells slots Q (F0 m (pc + 3) ls rest)) : W p l e R s m args below meth c H locs cells slots Q (F0 m pc ls (.int (iI b) :: .int (iI a) :: rest)) :=
  lv_icmp_eq hx hb d ht (fun h => kt ((iI_inj ha hc).mp h)) (fun h => kf (fun q => h ((iI_inj ha hc).mpr q)))
theorem x_cmp_ne (hx : p.tables.exec = Jvm.exec) (hb : c.code = cc) {a b off : Int} {tgt : Nat} (ha : iR a) (hc : iR b) (d : decode cc pc = .ok (.if_icmp .ne off, 3)) (ht : (pc : Int) + off = (tgt : Int)) (kt : ¬ a = b → W p l e R s m args below meth c H locs cells slots Q (F0 m tgt ls rest)) (kf : a = b → W p l e R s m args below meth c H locs cells slots Q (F0 m (pc + 3) ls rest)) : W p l e R s m args below meth c H locs cells slots Q (F0 m pc ls (.int (iI b) :: .int (iI a) :: rest)) :=
  lv_icmp_ne hx hb d ht (fun h => kt (fun q => h ((iI_inj ha hc).mpr q))) (fun h => kf (by
    rcases Classical.em (iI a = iI b) with q | q
    · exact (iI_inj ha hc).mp q
    · first | exact absurd q h | exact (iI_inj ha hc).mp h))
theorem x_if_lt (hx : p.tables.exec = Jvm.exec) (hb : c.code = cc) {a off : Int} {tgt : Nat} (ha : iR a) (d : decode cc pc = .ok (.ifCond .lt off, 3)) (ht : (pc : Int) + off = (tgt : Int)) (kt : a < 0 → W p l e R s m args below meth c H locs cells slots Q (F0 m tgt ls rest)) (kf : ¬ a < 0 → W p l e R s m args below meth c H locs cells slots Q (F0 m (pc + 3) ls rest)) : W p l e R s m args below meth c H locs cells slots Q (F0 m pc ls (.int (iI a) :: rest)) :=
  lv_if_lt hx hb d ht (fun h => kt ((iI_lt ha ⟨by omega, by omega⟩).mp h)) (fun h => kf (fun q => h ((iI_lt ha ⟨by omega, by omega⟩).mpr q)))
theorem x_if_ge (hx : p.tables.exec = Jvm.exec) (hb : c.code = cc) {a off : Int} {tgt : Nat} (ha : iR a) (d : decode cc pc = .ok (.ifCond .ge off, 3)) (ht : (pc : Int) + off = (tgt : Int)) (kt : 0 ≤ a → W p l e R s m args below meth c H locs cells slots Q (F0 m tgt ls rest)) (kf : ¬ 0 ≤ a → W p l e R s m args below meth c H locs cells slots Q (F0 m (pc + 3) ls rest)) : W p l e R s m args below meth c H locs cells slots Q (F0 m pc ls (.int (iI a) :: rest)) :=
  lv_if_ge hx hb d ht (fun h => kt ((iI_le ⟨by omega, by omega⟩ ha).mp h)) (fun h => kf (fun q => h ((iI_le ⟨by omega, by omega⟩ ha).mpr q)))
theorem x_if_gt (hx : p.tables.exec = Jvm.exec) (hb : c.code = cc) {a off : Int} {tgt : Nat} (ha : iR a) (d : decode cc pc = .ok (.ifCond .gt off, 3)) (ht : (pc : Int) + off = (tgt : Int)) (kt : 0 < a → W p l e R s m args below meth c H locs cells slots Q (F0 m tgt ls rest)) (kf : ¬ 0 < a → W p l e R s m args below meth c H locs cells slots Q (F0 m (pc + 3) ls rest)) : W p l e R s m args below meth c H locs cells slots Q (F0 m pc ls (.int (iI a) :: rest)) :=
  lv_if_gt hx hb d ht (fun h => kt ((iI_lt ⟨by omega, by omega⟩ ha).mp h)) (fun h => kf (fun q => h ((iI_lt ⟨by omega, by omega⟩ ha).mpr q)))
theorem x_if_le (hx : p.tables.exec = Jvm.exec) (hb : c.code = cc) {a off : Int} {tgt : Nat} (ha : iR a) (d : decode cc pc = .ok (.ifCond .le off, 3)) (ht : (pc : Int) + off = (tgt : Int)) (kt : a ≤ 0 → W p l e R s m args below meth c H locs cells slots Q (F0 m tgt ls rest)) (kf : ¬ a ≤ 0 → W p l e R s m args below meth c H locs cells slots Q (F0 m (pc + 3) ls rest)) : W p l e R s m args below meth c H locs cells slots Q (F0 m pc ls (.int (iI a) :: rest)) :=
  lv_if_le hx hb d ht (fun h => kt ((iI_le ha ⟨by omega, by omega⟩).mp h)) (fun h => kf (fun q => h ((iI_le ha ⟨by omega, by omega⟩).mpr q)))
theorem x_if_eq (hx : p.tables.exec = Jvm.exec) (hb : c.code = cc) {a off : Int} {tgt : Nat} (ha : iR a) (d : decode cc pc = .ok (.ifCond .eq off, 3)) (ht : (pc : Int) + off = (tgt : Int)) (kt : a = 0 → W p l e R s m args below meth c H locs cells slots Q (F0 m tgt ls rest)) (kf : ¬ a = 0 → W p l e R s m args below meth c H locs cells slots Q (F0 m (pc + 3) ls rest)) : W p l e R s m args below meth c H locs cells slots Q (F0 m pc ls (.int (iI a) :: rest)) :=
  lv_if_eq hx hb d ht (fun h => kt ((iI_inj ha ⟨by omega, by omega⟩).mp h)) (fun h => kf (fun q => h ((iI_inj ha ⟨by omega, by omega⟩).mpr q)))
theorem x_if_ne (hx : p.tables.exec = Jvm.exec) (hb : c.code = cc) {a off : Int} {tgt : Nat} (ha : iR a) (d : decode cc pc = .ok (.ifCond .ne off, 3)) (ht : (pc : Int) + off = (tgt : Int)) (kt : ¬ a = 0 → W p l e R s m args below meth c H locs cells slots Q (F0 m tgt ls rest)) (kf : a = 0 → W p l e R s m args below meth c H locs cells slots Q (F0 m (pc + 3) ls rest)) : W p l e R s m args below meth c H locs cells slots Q (F0 m pc ls (.int (iI a) :: rest)) :=
  lv_if_ne hx hb d ht (fun h => kt (fun q => h ((iI_inj ha ⟨by omega, by omega⟩).mpr q))) (fun h => kf (by
    rcases Classical.em (iI a = iI 0) with q | q
    · exact (iI_inj ha ⟨by omega, by omega⟩).mp q
    · first | exact absurd q h | exact (iI_inj ha ⟨by omega, by omega⟩).mp h))
/-- branches on a boolean -/
theorem x_ifb_eq (hx : p.tables.exec = Jvm.exec) (hb : c.code = cc) {P : Prop} [Decidable P] {off : Int} {tgt : Nat} (d : decode cc pc = .ok (.ifCond .eq off, 3)) (ht : (pc : Int) + off = (tgt : Int)) (kt : ¬ P → W p l e R s m args below meth c H locs cells slots Q (F0 m tgt ls rest)) (kf : P → W p l e R s m args below meth c H locs cells slots Q (F0 m (pc + 3) ls rest)) : W p l e R s m args below meth c H locs cells slots Q (F0 m pc ls (.int (iI (bI P)) :: rest)) :=
  x_if_eq hx hb ⟨by have := @bI_r P _; omega, by have := @bI_r P _; omega⟩ d ht (fun h => kt (bI_0.mp h)) (fun h => kf (Classical.byContradiction fun q => h (bI_0.mpr q)))
theorem x_ifb_ne (hx : p.tables.exec = Jvm.exec) (hb : c.code = cc) {P : Prop} [Decidable P] {off : Int} {tgt : Nat} (d : decode cc pc = .ok (.ifCond .ne off, 3)) (ht : (pc : Int) + off = (tgt : Int)) (kt : P → W p l e R s m args below meth c H locs cells slots Q (F0 m tgt ls rest)) (kf : ¬ P → W p l e R s m args below meth c H locs cells slots Q (F0 m (pc + 3) ls rest)) : W p l e R s m args below meth c H locs cells slots Q (F0 m pc ls (.int (iI (bI P)) :: rest)) :=
  x_if_ne hx hb ⟨by have := @bI_r P _; omega, by have := @bI_r P _; omega⟩ d ht (fun h => kt (Classical.byContradiction fun q => h (bI_0.mpr q))) (fun h => kf (bI_0.mp h))
/-- the top of the stack under another name -/
theorem x_top {a b : Int} (h : a = b) (k : W p l e R s m args below meth c H locs cells slots Q (F0 m pc ls (.int (iI b) :: rest))) : W p l e R s m args below meth c H locs cells slots Q (F0 m pc ls (.int (iI a) :: rest)) := by rw [h]; exact k
end XW
end
section
/-! What every method may take as given of its start: the tables' classes, the two static rows, what an exception needs. -/
abbrev xg : Type := va_G × ClassId × ClassId × Nat × Nat
abbrev gD (g : xg) : va_G := g.1
abbrev gI (g : xg) : ClassId := g.2.1
abbrev gC (g : xg) : ClassId := g.2.2.1
abbrev gT (g : xg) : Nat := g.2.2.2.1
abbrev gU (g : xg) : Nat := g.2.2.2.2
/-- what the two rows of the positions hold -/
def toSide (p : Int) : Int := if p = 1 ∨ p = 2 ∨ p = 3 then 1 else if p = 5 ∨ p = 6 ∨ p = 7 then -1 else 0
def upward (p : Int) : Int := if p = 0 ∨ p = 1 ∨ p = 7 then 1 else if p = 3 ∨ p = 4 ∨ p = 5 then -1 else 0
def xStr : List (Nat × String) := [(114, "the last ring is less than the first one"), (120, "too many houses"), (133, "the stack is full"), (144, "no such place"), (159, "the other stack is full"), (170, "all stacks are empty"), (176, "too much slurry for the tank"), (184, "no ground for the next ring"), (198, "there is a reason against it"), (201, "the clock would be too great"), (292, "nothing to pay"), (297, "no houses"), (299, "no ring has been laid"), (324, "no such character"), (331, "an argument is out of range"), (333, "no such stack"), (335, "no such position"), (337, "no ground for this ring"), (339, "no such ring has been laid"), (341, "no such house"), (343, "the stack has too few rings"), (87, "ground for too many rings"), (98, "bends for too many rings")]
/-- the private constructors that another class of the nest calls -/
def xNest : List (String × Nat × MethodName) := [(RX8, 18, yX3_init), (RX8, 25, yX2_init), (RX8, 32, yX7_init), (RX8, 39, yX6_init), (RX8, 46, yX4_init), (RX8, 53, yX0_init), (RX8, 60, yX5_init), (RX8, 9, yX1_init), (RX4, 11, yX0_init), (RX6, 26, yX0_init)]
/-- the static rows as the classes inside read them -/
def xNestF : List (String × Nat × String) := [(RX0, 22, "TO_SIDE"), (RX0, 28, "UPWARD"), (RX4, 62, "TO_SIDE"), (RX4, 65, "UPWARD")]
abbrev xTys (g : xg) : List (ClassId × FieldType) := [(gI g, .int), (gC g, .char)]
def xC (g : xg) (A : Nat → Prop) (U : State) (H : Heap) : Prop :=
  va_K (gD g) vwCl (xTys g) U ∧ (va_Z "TunnelRing" "TO_SIDE" "[I" (.ref (gT g)) A U H ∧ va_T .int (gT g) 8 (fun j => .int (ar toSide j)) A U H) ∧ (va_Z "TunnelRing" "UPWARD" "[I" (.ref (gU g)) A U H ∧ va_T .int (gU g) 8 (fun j => .int (ar upward j)) A U H) ∧
  vx_Zq Bundle.tN "UNASSIGNED_STACK" Bundle.steD A U H ∧ vx_Zq Bundle.tN "SUPPRESSED_SENTINEL" Bundle.listD A U H ∧ (∀ q ∈ xStr, ∃ sa : Nat, vk_R RX8 q.1 q.2 sa U) ∧ (∀ q ∈ xNest, va_Nw (.methodLinkNest q.1 q.2.1 q.2.2 RX8) U) ∧ (∀ q ∈ xNestF, va_Nw (.fieldLinkNest q.1 q.2.1 "TunnelRing" q.2.2 "[I" "TunnelRing") U) ∧ U.vm.findClass "[I" = some (gI g) ∧ U.vm.findClass "[C" = some (gC g)
theorem xC.warm {g : xg} {A : Nat → Prop} {u U : State} {H : Heap} (hW : u.WarmedH U.vm) (h : xC g A u H) : xC g A U H := by
  obtain ⟨h1, h2, h3, h4, h5, h6, h7, h7f, h8, h9⟩ := h
  have hvm := hW.alike
  refine ⟨va_K.moved hvm h1, ⟨va_Z.moved hvm h2.1, va_T.moved hvm h2.2⟩, ⟨va_Z.moved hvm h3.1, va_T.moved hvm h3.2⟩, vx_Zq.moved hvm h4, vx_Zq.moved hvm h5, fun q hq => ?_, fun q hq => va_Nw.warmM hW (h7 q hq), fun q hq => va_Nw.warmF hW (h7f q hq), ?_, ?_⟩
  · obtain ⟨sa, hs⟩ := h6 q hq
    exact ⟨sa, hs.warm hW⟩
  · exact (hvm.findClass "[I" none).trans h8
  · exact (hvm.findClass "[C" none).trans h9
theorem xC.same {g : xg} {A : Nat → Prop} {u U : State} {H : Heap} (he : U.vm = u.vm) (h : xC g A u H) : xC g A U H := by
  obtain ⟨h1, h2, h3, h4, h5, h6, h7, h7f, h8, h9⟩ := h
  have hvm : u.vm.Alike U.vm := by rw [he]; exact Vm.Alike.refl u.vm
  refine ⟨va_K.moved hvm h1, ⟨va_Z.moved hvm h2.1, va_T.moved hvm h2.2⟩, ⟨va_Z.moved hvm h3.1, va_T.moved hvm h3.2⟩, vx_Zq.moved hvm h4, vx_Zq.moved hvm h5, fun q hq => ?_, fun q hq => va_Nw.same rfl he.symm (h7 q hq), fun q hq => va_Nw.same rfl he.symm (h7f q hq), ?_, ?_⟩
  · obtain ⟨sa, hs⟩ := h6 q hq
    exact ⟨sa, hs.same he⟩
  · rw [he]; exact h8
  · rw [he]; exact h9
theorem xC.kept {g : xg} {A : Nat → Prop} {U : State} {H H1 : Heap} (h : xC g A U H) (hq : ∀ a : Nat, a < H.size → ¬ A a → H1[a]? = H[a]?) : xC g A U H1 := by
  obtain ⟨h1, h2, h3, h4, h5, h6⟩ := h
  exact ⟨h1, ⟨va_Z.kept h2.1 hq, va_T.kept h2.2 hq⟩, ⟨va_Z.kept h3.1 hq, va_T.kept h3.2 hq⟩, vx_Zq.kept h4 hq, vx_Zq.kept h5 hq, h6⟩
theorem xC.narrow {g : xg} {A B : Nat → Prop} {U : State} {H : Heap} (h : xC g A U H) (hAB : ∀ q, B q → A q) : xC g B U H := by
  obtain ⟨h1, h2, h3, h4, h5, h6⟩ := h
  exact ⟨h1, ⟨va_Z.narrow h2.1 hAB, va_T.narrow h2.2 hAB⟩, ⟨va_Z.narrow h3.1 hAB, va_T.narrow h3.2 hAB⟩, vx_Zq.narrow h4 hAB, vx_Zq.narrow h5 hAB, h6⟩
/-- a method's start, its end -/
def xB (g : xg) (ws : va_W) (sz : Nat) (U : State) : Prop := U.heap.size = sz ∧ va_P (gD g) vwCl ws U.heap ∧ va_D (fun _ => True) ws ∧ xC g (va_A ws sz) U U.heap
def xE (g : xg) (A : Nat → Prop) (ws : va_W) (t : State) : Prop := va_P (gD g) vwCl ws t.heap ∧ va_D A ws
theorem xB_blind {g : xg} {ws : va_W} {sz : Nat} {av : List Value} : FrameBlind (va_Pc av (xB g ws sz)) := by
  intro a U f mk h
  obtain ⟨h0, h1, h2, h3, h4⟩ := h
  exact ⟨h0, h1, h2, h3, xC.same (u := U) (U := U.calling f mk a) rfl h4⟩
theorem x_fm {ws wc : va_W} : ∀ (isC : List Nat), isC.map (fun i => ws[i]?) = wc.map some → isC.filterMap (fun i => ws[i]?) = wc := by
  intro isC
  induction isC generalizing wc with
  | nil => intro h; cases wc with
    | nil => rfl
    | cons a t => simp at h
  | cons i t ih =>
    intro h
    cases wc with
    | nil => simp at h
    | cons a t2 =>
      simp only [List.map_cons, List.cons.injEq] at h
      rw [List.filterMap_cons, h.1]
      exact congrArg (a :: ·) (ih h.2)
section XC
variable {p : Program} {l : Launch} {e : Env} {R : Room} {s : State} {m : MethodId} {args : Array Value} {below : List Frame} {meth : Method} {c : Code} {H : Heap} {locs : List Loc} {cells slots : Nat} {Q : State → Prop}
variable {cc : ByteArray} {pc : Nat} {ls : Array Slot} {rest st0 : List Value} {g : xg} {A : Nat → Prop} {ws wc wr : va_W} {mc ms : Nat}
/-- ahead of a call: the callee's part of the world -/
theorem x_pre (hC : xC g A s s.heap) (hP : va_P (gD g) vwCl ws H) (hD : va_D A ws) (hS : va_S A s.heap H locs) (hA : ∀ q : Nat, s.heap.size ≤ q → A q) (isC : List Nat) (hc : isC.map (fun i => ws[i]?) = wc.map some) (hn : va_nd isC = true) (av : List Value) :
    ∀ U : State, U.heap = H → s.WarmedH U.vm → va_Pc av (xB g wc H.size) av.toArray U := by
  intro U hU hW
  have hF := va_free (wc := wc) hD hS hA isC hc
  refine ⟨rfl, by rw [hU], by rw [hU]; exact hP.sub isC (x_fm isC hc), (hD.sub isC hn hc).weaken (fun _ _ _ _ => trivial), ?_⟩
  rw [hU]
  exact xC.warm hW ((hC.kept (fun a h1 h2 => hS.2.1 a h1 h2)).narrow hF)
/-- behind a call: the callee's part put back -/
theorem x_post (hP : va_P (gD g) vwCl ws H) (hD : va_D A ws) (hS : va_S A s.heap H locs) (hA : ∀ q : Nat, s.heap.size ≤ q → A q) {H1 : Heap} (isC isR pe : List Nat) (hc : isC.map (fun i => ws[i]?) = wc.map some) (hr : isR.map (fun i => ws[i]?) = wr.map some) (hn : va_nd isR = true) (hdis : ∀ i ∈ isR, i ∉ isC)
    {w1 w2 : va_W} {t : State} (ht : t.heap = H1) (hE : xE g (va_A wc H.size) w1 t) (hk : ∀ q : Nat, q < H.size → ¬ va_A wc H.size q → H1[q]? = H[q]?) (h2 : pe.map (fun i => (wr ++ w1)[i]?) = w2.map some) (hpn : va_nd pe = true) : va_P (gD g) vwCl w2 H1 ∧ va_D A w2 := by
  obtain ⟨hP1, hD1⟩ := hE
  rw [ht] at hP1
  have hF := va_free (wc := wc) hD hS hA isC hc
  obtain ⟨a, b⟩ := va_join (wr := wr) (w1 := w1) hP hD isC isR hc hr hn hdis hk hF hP1 hD1
  exact ⟨a.sub pe (x_fm pe h2), b.sub pe hpn h2⟩
/-- calls that don't throw: an int, nothing -/
theorem x_calli {S : Type} {val : S → Int} {Φ : S → Prop} {W1 : S → va_W} {a : Array Value} (hC : xC g A s s.heap) (hP : va_P (gD g) vwCl ws H) (hD : va_D A ws) (hS : va_S A s.heap H locs) (hA : ∀ q : Nat, s.heap.size ≤ q → A q)
    (isC isR pe : List Nat) (hc : isC.map (fun i => ws[i]?) = wc.map some) (hn : va_nd isC = true)
    (hrun : (∀ av : List Value, ∀ U : State, U.heap = H → s.WarmedH U.vm → va_Pc av (xB g wc H.size) av.toArray U) → va_Run p l e R s m args below meth c H locs cells slots mc ms (F0 m pc ls st0) rest (va_Qi (fun r u => r = iI (val u) ∧ Φ u) (fun u t => xE g (va_A wc H.size) (W1 u) t) (va_A wc H.size) a) (va_A wc H.size))
    (W2 : S → va_W) (hr : isR.map (fun i => ws[i]?) = wr.map some) (hnr : va_nd isR = true) (hdis : ∀ i ∈ isR, i ∉ isC) (h2 : ∀ u, pe.map (fun i => (wr ++ W1 u)[i]?) = (W2 u).map some) (hpn : va_nd pe = true)
    (kk : ∀ (u : S) (v : Int) (H1 : Heap) (locs1 : List Loc), v = val u → Φ u → va_P (gD g) vwCl (W2 u) H1 → va_D A (W2 u) → va_S A s.heap H1 locs1 → W p l e R s m args below meth c H1 locs1 (cells + mc) (slots + ms) Q (F0 m (pc + 3) ls (.int (iI v) :: rest))) :
    W p l e R s m args below meth c H locs cells slots Q (F0 m pc ls st0) := by
  have hF := va_free (wc := wc) hD hS hA isC hc
  refine va_calli (hrun (x_pre hC hP hD hS hA isC hc hn)) hS (fun q _ h => hF q h) hF (fun r u t H1 locs1 ht hvm hw hB hz1 hk1 hS1 => ?_)
  obtain ⟨hP1, hD1⟩ := x_post hP hD hS hA isC isR pe hc hr hnr hdis ht hB hk1 (h2 u) hpn
  rw [hw.1]
  exact kk u (val u) H1 locs1 rfl hw.2 hP1 hD1 hS1
theorem x_callv {S : Type} {Φ : S → Prop} {W1 : S → va_W} {a : Array Value} (hC : xC g A s s.heap) (hP : va_P (gD g) vwCl ws H) (hD : va_D A ws) (hS : va_S A s.heap H locs) (hA : ∀ q : Nat, s.heap.size ≤ q → A q)
    (isC isR pe : List Nat) (hc : isC.map (fun i => ws[i]?) = wc.map some) (hn : va_nd isC = true)
    (hrun : (∀ av : List Value, ∀ U : State, U.heap = H → s.WarmedH U.vm → va_Pc av (xB g wc H.size) av.toArray U) → va_Run p l e R s m args below meth c H locs cells slots mc ms (F0 m pc ls st0) rest (va_Qv Φ (fun u t => xE g (va_A wc H.size) (W1 u) t) (va_A wc H.size) a) (va_A wc H.size))
    (W2 : S → va_W) (hr : isR.map (fun i => ws[i]?) = wr.map some) (hnr : va_nd isR = true) (hdis : ∀ i ∈ isR, i ∉ isC) (h2 : ∀ u, pe.map (fun i => (wr ++ W1 u)[i]?) = (W2 u).map some) (hpn : va_nd pe = true)
    (kk : ∀ (u : S) (H1 : Heap) (locs1 : List Loc), Φ u → va_P (gD g) vwCl (W2 u) H1 → va_D A (W2 u) → va_S A s.heap H1 locs1 → W p l e R s m args below meth c H1 locs1 (cells + mc) (slots + ms) Q (F0 m (pc + 3) ls rest)) :
    W p l e R s m args below meth c H locs cells slots Q (F0 m pc ls st0) := by
  have hF := va_free (wc := wc) hD hS hA isC hc
  refine va_callv (hrun (x_pre hC hP hD hS hA isC hc hn)) hS (fun q _ h => hF q h) hF (fun u t H1 locs1 ht hvm hw hB hz1 hk1 hS1 => ?_)
  obtain ⟨hP1, hD1⟩ := x_post hP hD hS hA isC isR pe hc hr hnr hdis ht hB hk1 (h2 u) hpn
  exact kk u H1 locs1 hw hP1 hD1 hS1
/-- rows of ints and chars -/
theorem x_iald (hx : p.tables.exec = Jvm.exec) (hb : c.code = cc) {D : va_G} {cl : List vw_C} {tys : List (ClassId × FieldType)} (hK : va_K D cl tys s) (hP : va_P D cl ws H) (q0 t0 : Nat) {aa : Nat} {cA : ClassId} {n : Nat} {F : Int → Int} (ha : ws[q0]? = some (aa, .inl (cA, n, .inl (ar F)))) (ht : tys[t0]? = some (cA, .int)) {i : Int} (h0 : 0 ≤ i) (h1 : i < (n : Int)) (hn : n ≤ 2147483647) (d : decode cc pc = .ok (.iaload, 1))
    (kk : ∀ v : Int, v = F i → W p l e R s m args below meth c H locs cells slots Q (F0 m (pc + 1) ls (.int (iI v) :: rest))) : W p l e R s m args below meth c H locs cells slots Q (F0 m pc ls (.int (iI i) :: .ref aa :: rest)) :=
  va_iald hx hb hK hP q0 t0 ha ht (iI_in h0 h1 (by omega)) d (by rw [ar_at F h0 (by omega)]; exact kk _ rfl)
theorem x_iast (hx : p.tables.exec = Jvm.exec) (hb : c.code = cc) {D : va_G} {cl : List vw_C} {tys : List (ClassId × FieldType)} {H0 : Heap} (hK : va_K D cl tys s) (hP : va_P D cl ws H) (hD : va_D A ws) (hS : va_S A H0 H locs) (q0 t0 : Nat) {aa : Nat} {cA : ClassId} {n : Nat} {F : Int → Int} (ha : ws[q0]? = some (aa, .inl (cA, n, .inl (ar F)))) (ht : tys[t0]? = some (cA, .int)) {i v : Int} (h0 : 0 ≤ i) (h1 : i < (n : Int)) (hn : n ≤ 2147483647) (d : decode cc pc = .ok (.iastore, 1))
    (kk : ∀ (H1 : Heap) (locs1 : List Loc), va_P D cl (ws.set q0 (aa, .inl (cA, n, .inl (ar (up F i v))))) H1 → va_D A (ws.set q0 (aa, .inl (cA, n, .inl (ar (up F i v))))) → va_S A H0 H1 locs1 → W p l e R s m args below meth c H1 locs1 cells slots Q (F0 m (pc + 1) ls rest)) : W p l e R s m args below meth c H locs cells slots Q (F0 m pc ls (.int (iI v) :: .int (iI i) :: .ref aa :: rest)) :=
  va_iast hx hb hK hP hD hS q0 t0 ha ht (iI_in h0 h1 (by omega)) d (by rw [ar_up F v h0 (by omega)]; exact kk)
theorem vp_nar_c {v : Int} (h0 : 0 ≤ v) (h1 : v < 65536) : vp_nar .char (iI v) = iI v := by
  rw [vp_nar_char]
  obtain ⟨n, rfl⟩ := Int.eq_ofNat_of_zero_le h0
  have hn : n < 65536 := by omega
  show (Int32.ofInt (n : Int)).toUInt32.toUInt16.toUInt32.toInt32 = Int32.ofInt (n : Int)
  apply Int32.toBitVec.inj
  apply BitVec.eq_of_toNat_eq
  simp
  omega
theorem x_cald (hx : p.tables.exec = Jvm.exec) (hb : c.code = cc) {D : va_G} {cl : List vw_C} {tys : List (ClassId × FieldType)} (hK : va_K D cl tys s) (hP : va_P D cl ws H) (q0 t0 : Nat) {aa : Nat} {cA : ClassId} {n : Nat} {F : Int → Int} (ha : ws[q0]? = some (aa, .inl (cA, n, .inl (ar F)))) (ht : tys[t0]? = some (cA, .char)) {i : Int} (h0 : 0 ≤ i) (h1 : i < (n : Int)) (hn : n ≤ 2147483647) (d : decode cc pc = .ok (.caload, 1))
    (kk : ∀ v : Int, v = F i → W p l e R s m args below meth c H locs cells slots Q (F0 m (pc + 1) ls (.int (iI v) :: rest))) : W p l e R s m args below meth c H locs cells slots Q (F0 m pc ls (.int (iI i) :: .ref aa :: rest)) :=
  va_cald hx hb hK hP q0 t0 ha ht (iI_in h0 h1 (by omega)) d (by rw [ar_at F h0 (by omega)]; exact kk _ rfl)
theorem x_cast (hx : p.tables.exec = Jvm.exec) (hb : c.code = cc) {D : va_G} {cl : List vw_C} {tys : List (ClassId × FieldType)} {H0 : Heap} (hK : va_K D cl tys s) (hP : va_P D cl ws H) (hD : va_D A ws) (hS : va_S A H0 H locs) (q0 t0 : Nat) {aa : Nat} {cA : ClassId} {n : Nat} {F : Int → Int} (ha : ws[q0]? = some (aa, .inl (cA, n, .inl (ar F)))) (ht : tys[t0]? = some (cA, .char)) {i v : Int} (h0 : 0 ≤ i) (h1 : i < (n : Int)) (hn : n ≤ 2147483647) (hv : 0 ≤ v ∧ v < 65536) (d : decode cc pc = .ok (.castore, 1))
    (kk : ∀ (H1 : Heap) (locs1 : List Loc), va_P D cl (ws.set q0 (aa, .inl (cA, n, .inl (ar (up F i v))))) H1 → va_D A (ws.set q0 (aa, .inl (cA, n, .inl (ar (up F i v))))) → va_S A H0 H1 locs1 → W p l e R s m args below meth c H1 locs1 cells slots Q (F0 m (pc + 1) ls rest)) : W p l e R s m args below meth c H locs cells slots Q (F0 m pc ls (.int (iI v) :: .int (iI i) :: .ref aa :: rest)) :=
  va_cast hx hb hK hP hD hS q0 t0 ha ht (iI_in h0 h1 (by omega)) d (by rw [vp_nar_c hv.1 hv.2, ar_up F v h0 (by omega)]; exact kk)
theorem x_tald (hx : p.tables.exec = Jvm.exec) (hb : c.code = cc) {t N : Nat} {F : Int → Int} (hT : va_T .int t N (fun j => .int (ar F j)) A s s.heap) (hS : va_S A s.heap H locs) {i : Int} (h0 : 0 ≤ i) (h1 : i < (N : Int)) (hn : N ≤ 2147483647) (d : decode cc pc = .ok (.iaload, 1))
    (kk : ∀ v : Int, v = F i → W p l e R s m args below meth c H locs cells slots Q (F0 m (pc + 1) ls (.int (iI v) :: rest))) : W p l e R s m args below meth c H locs cells slots Q (F0 m pc ls (.int (iI i) :: .ref t :: rest)) :=
  va_ti hx hb hT hS (iI_in h0 h1 (by omega)) (v := .int (iI (F i))) (by rw [ar_at F h0 (by omega)]) d (kk _ rfl)
/-- ends -/
theorem x_iret {ty : FieldType} (hx : p.tables.exec = Jvm.exec) (hb : c.code = cc) (hr : meth.sig.returnType = some ty) (hlocks : meth.locks = false) (hP : va_P (gD g) vwCl ws H) (hD : va_D A ws) (hS : va_S A s.heap H locs) {S : Type} {val : S → Int} {Φ : S → Prop} {W1 : S → va_W} {v : Int} (hn : narrow ty (.int (iI v)) = .int (iI v)) (d : decode cc pc = .ok (.ireturn, 1)) (u : S) (hv : v = val u) (hu : Φ u) (hW : ws = W1 u) (h1 : cells ≤ mc) (h2 : slots ≤ ms) :
    W p l e R s m args below meth c H locs cells slots (MQ below (va_Qi (fun r u => r = iI (val u) ∧ Φ u) (fun u t => xE g A (W1 u) t) A) args s mc ms A) (F0 m pc ls [.int (iI v)]) := by
  refine W.widen (k := mc) (n := ms) h1 h2 ?_
  exact W.zret (v := iI v) hx hb hr hn (fun t ht hW9 => ⟨⟨iI v, u, rfl, ⟨by rw [hv], hu⟩, ⟨by rw [ht, ← hW]; exact hP, by rw [← hW]; exact hD⟩⟩, hS.F ht⟩) hS.2.2 d
theorem x_vret (hx : p.tables.exec = Jvm.exec) (hb : c.code = cc) (hr : meth.sig.returnType = none) (hlocks : meth.locks = false) (hP : va_P (gD g) vwCl ws H) (hD : va_D A ws) (hS : va_S A s.heap H locs) {S : Type} {Φ : S → Prop} {W1 : S → va_W} (d : decode cc pc = .ok (.return_, 1)) (u : S) (hu : Φ u) (hW : ws = W1 u) (h1 : cells ≤ mc) (h2 : slots ≤ ms) :
    W p l e R s m args below meth c H locs cells slots (MQ below (va_Qv Φ (fun u t => xE g A (W1 u) t) A) args s mc ms A) (F0 m pc ls []) := by
  refine W.widen (k := mc) (n := ms) h1 h2 ?_
  exact W.vret hx hb hr (fun t ht hW9 => ⟨⟨u, rfl, hu, ⟨by rw [ht, ← hW]; exact hP, by rw [← hW]; exact hD⟩⟩, hS.F ht⟩) hS.2.2 d
end XC
/-- a contract's entry -/
theorem x_enter {l : Launch} {y : MethodName} {ws ws' : List Cond} {rm : Room} {g : xg} {WS : va_W} {sz : Nat} {av : List Value} {Qc : (Nat → Prop) → Array Value → State → Outcome → State → Prop} {mc ms : Nat} {cc : ByteArray} {maxL : Nat} {ret : Option FieldType}
    (hy : plainName y.cls = true) (hw : ws = Cond.code y cc maxL ret :: ws') (hlen : (lg_sl av).length ≤ maxL)
    (body : ∀ p e s m args below meth c A ls, p.tables.exec = Jvm.exec → c.code = cc → meth.sig.returnType = ret → c.maxLocals = maxL → s.vm.findClass y.cls = some m.cls → (∀ w ∈ ws, w.before args s = true) → meth.locks = false → meth.name = y.name → xC g A s s.heap → va_P (gD g) vwCl WS s.heap → va_D A WS → va_S A s.heap s.heap [] → (∀ q : Nat, s.heap.size ≤ q → A q) → lv_has ls maxL (lv_args 0 av) →
      W p l e rm s m args below meth c s.heap [] 0 0 (MQ below (Qc A) args s mc ms A) (F0 m 0 ls [])) :
    Met l y ws rm (va_Pc av (xB g WS sz)) (Qc (va_A WS sz)) mc ms (va_A WS sz) := by
  refine Met.ofW (cc := cc) (maxL := maxL) (ret := ret) hy hw ?_
  intro p e s m args below meth c s₁ B hml hv
  obtain ⟨rfl, hsz, hP, hD0, hC⟩ := hv
  subst hsz
  rw [lg_entry_eq]
  exact body p e s m _ below meth c _ _ B.exec B.bytes B.returns hml (findClass_of_methodNamed B.named) (atoms_spec (ws := ws) B.pre) B.notSynchronized (name_of_methodNamed B.named B.method).1 hC hP hD0.self va_S.rf (fun q h => Or.inr h) (lv_entry av hlen)
end
section
def bnd (F : Int → Int) (lo hi : Int) : Prop := ∀ i : Int, lo ≤ F i ∧ F i ≤ hi
theorem bnd_up {F : Int → Int} {lo hi k v : Int} (h : bnd F lo hi) (h1 : lo ≤ v) (h2 : v ≤ hi) : bnd (up F k v) lo hi := by
  intro i; unfold up; split
  · exact ⟨h1, h2⟩
  · exact h i
theorem toSide_r (p : Int) : -1 ≤ toSide p ∧ toSide p ≤ 1 := by unfold toSide; split <;> (try split) <;> omega
theorem upward_r (p : Int) : -1 ≤ upward p ∧ upward p ≤ 1 := by unfold upward; split <;> (try split) <;> omega
def mx (a b : Int) : Int := if a < b then b else a
def mn (a b : Int) : Int := if b < a then b else a
def aI (a : Int) : Int := if 0 ≤ a then a else 0 - a
theorem mx_r (a b : Int) {v : Int} (h : v = mx a b) : a ≤ v ∧ b ≤ v ∧ (v = a ∨ v = b) := by rw [h]; unfold mx; split <;> omega
theorem mn_r (a b : Int) {v : Int} (h : v = mn a b) : v ≤ a ∧ v ≤ b ∧ (v = a ∨ v = b) := by rw [h]; unfold mn; split <;> omega
theorem aI_r (a : Int) {v : Int} (h : v = aI a) : 0 ≤ v ∧ (v = a ∨ v = -a) := by rw [h]; unfold aI; split <;> omega
theorem nar_bI (P : Prop) [Decidable P] : narrow .boolean (.int (iI (bI P))) = .int (iI (bI P)) := by unfold bI; split <;> decide
theorem nar_b {P : Prop} [Decidable P] {v : Int} (h : v = bI P) : narrow .boolean (.int (iI v)) = .int (iI v) := by rw [h]; exact nar_bI P
theorem nar_c {v : Int} (h : 0 ≤ v ∧ v < 65536) : narrow .char (.int (iI v)) = .int (iI v) := by
  have h2 := vp_nar_c h.1 h.2
  unfold vp_nar at h2
  cases h3 : narrow .char (.int (iI v)) with
  | int y => rw [h3] at h2; exact congrArg Value.int h2
  | _ => simp [narrow] at h3
section XM
variable {p : Program} {l : Launch} {e : Env} {R : Room} {s : State} {m : MethodId} {args : Array Value} {below : List Frame} {meth : Method} {c : Code} {H : Heap} {locs : List Loc} {cells slots : Nat} {Q : State → Prop}
variable {cc : ByteArray} {pc : Nat} {ls : Array Slot} {rest : List Value}
theorem x_ldc (hx : p.tables.exec = Jvm.exec) (hb : c.code = cc) {own : String} {index : Nat} {v : Int} (hown : s.vm.findClass own = some m.cls) (hconst : (Jvm.Cond.constant own index (Int32.ofInt v)).before args s = true) (d : decode cc pc = .ok (.ldc index, 2)) (k : W p l e R s m args below meth c H locs cells slots Q (F0 m (pc + 2) ls (.int (iI v) :: rest))) : W p l e R s m args below meth c H locs cells slots Q (F0 m pc ls rest) := lv_ldc hx hb hown hconst d k
theorem x_i2c (hx : p.tables.exec = Jvm.exec) (hb : c.code = cc) {v : Int} (h : 0 ≤ v ∧ v < 65536) (d : decode cc pc = .ok (.i2c, 1)) (k : W p l e R s m args below meth c H locs cells slots Q (F0 m (pc + 1) ls (.int (iI v) :: rest))) : W p l e R s m args below meth c H locs cells slots Q (F0 m pc ls (.int (iI v) :: rest)) := by
  refine lv_i2c hx hb d ?_ k
  obtain ⟨n, rfl⟩ := Int.eq_ofNat_of_zero_le h.1
  have hn : n < 65536 := by omega
  show ((Int32.ofInt (n : Int)).toUInt32 % 65536).toInt32 = Int32.ofInt (n : Int)
  apply Int32.toBitVec.inj
  apply BitVec.eq_of_toNat_eq
  simp
  omega
theorem x_max (hx : p.tables.exec = Jvm.exec) (hb : c.code = cc) (hml : c.maxLocals = ls.size) {own : String} {index : Nat} (hown : s.vm.findClass own = some m.cls) (hlink : (Cond.methodLink own index Lib.Math.max.name).before args s = true) (hstat : (Cond.static Lib.Math.max.name).before args s = true) (hini : (Cond.initialized "java/lang/Math").before args s = true) (hcode : (Cond.code Lib.Math.max.name Lib.Math.max.code 2 (some .int)).before args s = true)
    (hframes : 1 ≤ R.frames) (hlocals : (rest.map fun v => v.category).sum + 13 ≤ R.locals) (hc : cells ≤ R.cells) (hs : slots ≤ R.slots) {a b : Int} (ha : iR a) (hb2 : iR b) (hdg : decode cc pc = .ok (.invokestatic index, 3))
    (kk : ∀ v : Int, v = mx a b → W p l e R s m args below meth c H locs cells slots Q (F0 m (pc + 3) ls (.int (iI v) :: rest))) : W p l e R s m args below meth c H locs cells slots Q (F0 m pc ls (.int (iI b) :: .int (iI a) :: rest)) := by
  refine va_mmax hx hb hml hown hlink hstat hini hcode hframes hlocals hc hs hdg ?_
  have h := kk (mx a b) rfl
  unfold mx at h
  by_cases q : a < b
  · rw [if_pos ((iI_lt ha hb2).mpr q)]; rw [if_pos q] at h; exact h
  · rw [if_neg (fun z => q ((iI_lt ha hb2).mp z))]; rw [if_neg q] at h; exact h
theorem x_min (hx : p.tables.exec = Jvm.exec) (hb : c.code = cc) (hml : c.maxLocals = ls.size) {own : String} {index : Nat} (hown : s.vm.findClass own = some m.cls) (hlink : (Cond.methodLink own index Lib.Math.min.name).before args s = true) (hstat : (Cond.static Lib.Math.min.name).before args s = true) (hini : (Cond.initialized "java/lang/Math").before args s = true) (hcode : (Cond.code Lib.Math.min.name Lib.Math.min.code 2 (some .int)).before args s = true)
    (hframes : 1 ≤ R.frames) (hlocals : (rest.map fun v => v.category).sum + 13 ≤ R.locals) (hc : cells ≤ R.cells) (hs : slots ≤ R.slots) {a b : Int} (ha : iR a) (hb2 : iR b) (hdg : decode cc pc = .ok (.invokestatic index, 3))
    (kk : ∀ v : Int, v = mn a b → W p l e R s m args below meth c H locs cells slots Q (F0 m (pc + 3) ls (.int (iI v) :: rest))) : W p l e R s m args below meth c H locs cells slots Q (F0 m pc ls (.int (iI b) :: .int (iI a) :: rest)) := by
  refine va_mmin hx hb hml hown hlink hstat hini hcode hframes hlocals hc hs hdg ?_
  have h := kk (mn a b) rfl
  unfold mn at h
  by_cases q : b < a
  · rw [if_pos ((iI_lt hb2 ha).mpr q)]; rw [if_pos q] at h; exact h
  · rw [if_neg (fun z => q ((iI_lt hb2 ha).mp z))]; rw [if_neg q] at h; exact h
theorem x_abs (hx : p.tables.exec = Jvm.exec) (hb : c.code = cc) (hml : c.maxLocals = ls.size) {own : String} {index : Nat} (hown : s.vm.findClass own = some m.cls) (hlink : (Cond.methodLink own index Lib.Math.abs.name).before args s = true) (hstat : (Cond.static Lib.Math.abs.name).before args s = true) (hini : (Cond.initialized "java/lang/Math").before args s = true) (hcode : (Cond.code Lib.Math.abs.name Lib.Math.abs.code 1 (some .int)).before args s = true)
    (hframes : 1 ≤ R.frames) (hlocals : (rest.map fun v => v.category).sum + 13 ≤ R.locals) (hc : cells ≤ R.cells) (hs : slots ≤ R.slots) {a : Int} (ha : iR a) (hdg : decode cc pc = .ok (.invokestatic index, 3))
    (kk : ∀ v : Int, v = aI a → W p l e R s m args below meth c H locs cells slots Q (F0 m (pc + 3) ls (.int (iI v) :: rest))) : W p l e R s m args below meth c H locs cells slots Q (F0 m pc ls (.int (iI a) :: rest)) := by
  refine va_mabs hx hb hml hown hlink hstat hini hcode hframes hlocals hc hs hdg ?_
  have h := kk (aI a) rfl
  unfold aI at h
  by_cases q : 0 ≤ a
  · have q2 : (0 : Int32) ≤ iI a := (iI_le (a := 0) ⟨by omega, by omega⟩ ha).mpr q
    rw [if_pos q2]; rw [if_pos q] at h; exact h
  · have q2 : ¬ (0 : Int32) ≤ iI a := fun z => q ((iI_le (a := 0) ⟨by omega, by omega⟩ ha).mp z)
    rw [if_neg q2, show (0 : Int32) = iI 0 from rfl, iI_sub]; rw [if_neg q] at h; exact h
end XM
end
section
theorem dX0_init_0 : decode cX0_init 0 = .ok (.aload_n 0, 1) := by decide +kernel
theorem dX0_init_1 : decode cX0_init 1 = .ok (.invokespecial 1, 3) := by decide +kernel
theorem dX0_init_4 : decode cX0_init 4 = .ok (.return_, 1) := by decide +kernel
theorem dX0_restart_0 : decode cX0_restart 0 = .ok (.aload_n 0, 1) := by decide +kernel
theorem dX0_restart_1 : decode cX0_restart 1 = .ok (.iconst 0, 1) := by decide +kernel
theorem dX0_restart_2 : decode cX0_restart 2 = .ok (.putfield 7, 3) := by decide +kernel
theorem dX0_restart_5 : decode cX0_restart 5 = .ok (.aload_n 0, 1) := by decide +kernel
theorem dX0_restart_6 : decode cX0_restart 6 = .ok (.iconst 0, 1) := by decide +kernel
theorem dX0_restart_7 : decode cX0_restart 7 = .ok (.putfield 13, 3) := by decide +kernel
theorem dX0_restart_10 : decode cX0_restart 10 = .ok (.aload_n 0, 1) := by decide +kernel
theorem dX0_restart_11 : decode cX0_restart 11 = .ok (.iconst 0, 1) := by decide +kernel
theorem dX0_restart_12 : decode cX0_restart 12 = .ok (.putfield 16, 3) := by decide +kernel
theorem dX0_restart_15 : decode cX0_restart 15 = .ok (.aload_n 0, 1) := by decide +kernel
theorem dX0_restart_16 : decode cX0_restart 16 = .ok (.iconst 0, 1) := by decide +kernel
theorem dX0_restart_17 : decode cX0_restart 17 = .ok (.putfield 19, 3) := by decide +kernel
theorem dX0_restart_20 : decode cX0_restart 20 = .ok (.return_, 1) := by decide +kernel
theorem dX0_bend_0 : decode cX0_bend 0 = .ok (.aload_n 0, 1) := by decide +kernel
theorem dX0_bend_1 : decode cX0_bend 1 = .ok (.dup, 1) := by decide +kernel
theorem dX0_bend_2 : decode cX0_bend 2 = .ok (.getfield 16, 3) := by decide +kernel
theorem dX0_bend_5 : decode cX0_bend 5 = .ok (.iload_n 1, 1) := by decide +kernel
theorem dX0_bend_6 : decode cX0_bend 6 = .ok (.iadd, 1) := by decide +kernel
theorem dX0_bend_7 : decode cX0_bend 7 = .ok (.putfield 16, 3) := by decide +kernel
theorem dX0_bend_10 : decode cX0_bend 10 = .ok (.aload_n 0, 1) := by decide +kernel
theorem dX0_bend_11 : decode cX0_bend 11 = .ok (.dup, 1) := by decide +kernel
theorem dX0_bend_12 : decode cX0_bend 12 = .ok (.getfield 19, 3) := by decide +kernel
theorem dX0_bend_15 : decode cX0_bend 15 = .ok (.iload_n 2, 1) := by decide +kernel
theorem dX0_bend_16 : decode cX0_bend 16 = .ok (.iadd, 1) := by decide +kernel
theorem dX0_bend_17 : decode cX0_bend 17 = .ok (.putfield 19, 3) := by decide +kernel
theorem dX0_bend_20 : decode cX0_bend 20 = .ok (.aload_n 0, 1) := by decide +kernel
theorem dX0_bend_21 : decode cX0_bend 21 = .ok (.dup, 1) := by decide +kernel
theorem dX0_bend_22 : decode cX0_bend 22 = .ok (.getfield 7, 3) := by decide +kernel
theorem dX0_bend_25 : decode cX0_bend 25 = .ok (.aload_n 0, 1) := by decide +kernel
theorem dX0_bend_26 : decode cX0_bend 26 = .ok (.getfield 16, 3) := by decide +kernel
theorem dX0_bend_29 : decode cX0_bend 29 = .ok (.iadd, 1) := by decide +kernel
theorem dX0_bend_30 : decode cX0_bend 30 = .ok (.putfield 7, 3) := by decide +kernel
theorem dX0_bend_33 : decode cX0_bend 33 = .ok (.aload_n 0, 1) := by decide +kernel
theorem dX0_bend_34 : decode cX0_bend 34 = .ok (.dup, 1) := by decide +kernel
theorem dX0_bend_35 : decode cX0_bend 35 = .ok (.getfield 13, 3) := by decide +kernel
theorem dX0_bend_38 : decode cX0_bend 38 = .ok (.aload_n 0, 1) := by decide +kernel
theorem dX0_bend_39 : decode cX0_bend 39 = .ok (.getfield 19, 3) := by decide +kernel
theorem dX0_bend_42 : decode cX0_bend 42 = .ok (.iadd, 1) := by decide +kernel
theorem dX0_bend_43 : decode cX0_bend 43 = .ok (.putfield 13, 3) := by decide +kernel
theorem dX0_bend_46 : decode cX0_bend 46 = .ok (.return_, 1) := by decide +kernel
theorem dX0_unbend_0 : decode cX0_unbend 0 = .ok (.aload_n 0, 1) := by decide +kernel
theorem dX0_unbend_1 : decode cX0_unbend 1 = .ok (.dup, 1) := by decide +kernel
theorem dX0_unbend_2 : decode cX0_unbend 2 = .ok (.getfield 7, 3) := by decide +kernel
theorem dX0_unbend_5 : decode cX0_unbend 5 = .ok (.aload_n 0, 1) := by decide +kernel
theorem dX0_unbend_6 : decode cX0_unbend 6 = .ok (.getfield 16, 3) := by decide +kernel
theorem dX0_unbend_9 : decode cX0_unbend 9 = .ok (.isub, 1) := by decide +kernel
theorem dX0_unbend_10 : decode cX0_unbend 10 = .ok (.putfield 7, 3) := by decide +kernel
theorem dX0_unbend_13 : decode cX0_unbend 13 = .ok (.aload_n 0, 1) := by decide +kernel
theorem dX0_unbend_14 : decode cX0_unbend 14 = .ok (.dup, 1) := by decide +kernel
theorem dX0_unbend_15 : decode cX0_unbend 15 = .ok (.getfield 13, 3) := by decide +kernel
theorem dX0_unbend_18 : decode cX0_unbend 18 = .ok (.aload_n 0, 1) := by decide +kernel
theorem dX0_unbend_19 : decode cX0_unbend 19 = .ok (.getfield 19, 3) := by decide +kernel
theorem dX0_unbend_22 : decode cX0_unbend 22 = .ok (.isub, 1) := by decide +kernel
theorem dX0_unbend_23 : decode cX0_unbend 23 = .ok (.putfield 13, 3) := by decide +kernel
theorem dX0_unbend_26 : decode cX0_unbend 26 = .ok (.aload_n 0, 1) := by decide +kernel
theorem dX0_unbend_27 : decode cX0_unbend 27 = .ok (.dup, 1) := by decide +kernel
theorem dX0_unbend_28 : decode cX0_unbend 28 = .ok (.getfield 16, 3) := by decide +kernel
theorem dX0_unbend_31 : decode cX0_unbend 31 = .ok (.iload_n 1, 1) := by decide +kernel
theorem dX0_unbend_32 : decode cX0_unbend 32 = .ok (.isub, 1) := by decide +kernel
theorem dX0_unbend_33 : decode cX0_unbend 33 = .ok (.putfield 16, 3) := by decide +kernel
theorem dX0_unbend_36 : decode cX0_unbend 36 = .ok (.aload_n 0, 1) := by decide +kernel
theorem dX0_unbend_37 : decode cX0_unbend 37 = .ok (.dup, 1) := by decide +kernel
theorem dX0_unbend_38 : decode cX0_unbend 38 = .ok (.getfield 19, 3) := by decide +kernel
theorem dX0_unbend_41 : decode cX0_unbend 41 = .ok (.iload_n 2, 1) := by decide +kernel
theorem dX0_unbend_42 : decode cX0_unbend 42 = .ok (.isub, 1) := by decide +kernel
theorem dX0_unbend_43 : decode cX0_unbend 43 = .ok (.putfield 19, 3) := by decide +kernel
theorem dX0_unbend_46 : decode cX0_unbend 46 = .ok (.return_, 1) := by decide +kernel
set_option maxRecDepth 20000 in
theorem ggX0_addRing_X0_bend : GoodIn wsX0_addRing wsX0_bend := goodIn_r _ [5, 6, 7, 8, 9, 10, 11, 12, 13] (by decide +kernel) (by decide +kernel)
set_option maxRecDepth 20000 in
theorem gX0_addRing_X0_bend : GoodIn wsX0_addRing (wsV RX0 31 RX0 yX0_bend wsX0_bend) := goodIn_app (goodIn_of _ (by decide +kernel)) ggX0_addRing_X0_bend
theorem dX0_addRing_0 : decode cX0_addRing 0 = .ok (.aload_n 0, 1) := by decide +kernel
theorem dX0_addRing_1 : decode cX0_addRing 1 = .ok (.iload_n 2, 1) := by decide +kernel
theorem dX0_addRing_2 : decode cX0_addRing 2 = .ok (.getstatic 22, 3) := by decide +kernel
theorem dX0_addRing_5 : decode cX0_addRing 5 = .ok (.iload_n 1, 1) := by decide +kernel
theorem dX0_addRing_6 : decode cX0_addRing 6 = .ok (.iaload, 1) := by decide +kernel
theorem dX0_addRing_7 : decode cX0_addRing 7 = .ok (.imul, 1) := by decide +kernel
theorem dX0_addRing_8 : decode cX0_addRing 8 = .ok (.iload_n 2, 1) := by decide +kernel
theorem dX0_addRing_9 : decode cX0_addRing 9 = .ok (.getstatic 28, 3) := by decide +kernel
theorem dX0_addRing_12 : decode cX0_addRing 12 = .ok (.iload_n 1, 1) := by decide +kernel
theorem dX0_addRing_13 : decode cX0_addRing 13 = .ok (.iaload, 1) := by decide +kernel
theorem dX0_addRing_14 : decode cX0_addRing 14 = .ok (.imul, 1) := by decide +kernel
theorem dX0_addRing_15 : decode cX0_addRing 15 = .ok (.invokevirtual 31, 3) := by decide +kernel
theorem dX0_addRing_18 : decode cX0_addRing 18 = .ok (.return_, 1) := by decide +kernel
theorem dX1_init_0 : decode cX1_init 0 = .ok (.aload_n 0, 1) := by decide +kernel
theorem dX1_init_1 : decode cX1_init 1 = .ok (.invokespecial 3, 3) := by decide +kernel
theorem dX1_init_4 : decode cX1_init 4 = .ok (.aload_n 0, 1) := by decide +kernel
theorem dX1_init_5 : decode cX1_init 5 = .ok (.sipush 200, 3) := by decide +kernel
theorem dX1_init_8 : decode cX1_init 8 = .ok (.newarray .int, 2) := by decide +kernel
theorem dX1_init_10 : decode cX1_init 10 = .ok (.putfield 9, 3) := by decide +kernel
theorem dX1_init_13 : decode cX1_init 13 = .ok (.aload_n 0, 1) := by decide +kernel
theorem dX1_init_14 : decode cX1_init 14 = .ok (.sipush 200, 3) := by decide +kernel
theorem dX1_init_17 : decode cX1_init 17 = .ok (.newarray .int, 2) := by decide +kernel
theorem dX1_init_19 : decode cX1_init 19 = .ok (.putfield 15, 3) := by decide +kernel
theorem dX1_init_22 : decode cX1_init 22 = .ok (.aload_n 0, 1) := by decide +kernel
theorem dX1_init_23 : decode cX1_init 23 = .ok (.sipush 200, 3) := by decide +kernel
theorem dX1_init_26 : decode cX1_init 26 = .ok (.newarray .int, 2) := by decide +kernel
theorem dX1_init_28 : decode cX1_init 28 = .ok (.putfield 18, 3) := by decide +kernel
theorem dX1_init_31 : decode cX1_init 31 = .ok (.return_, 1) := by decide +kernel
theorem dX1_isKnown_0 : decode cX1_isKnown 0 = .ok (.iload_n 1, 1) := by decide +kernel
theorem dX1_isKnown_1 : decode cX1_isKnown 1 = .ok (.ifCond .lt 15, 3) := by decide +kernel
theorem dX1_isKnown_4 : decode cX1_isKnown 4 = .ok (.iload_n 1, 1) := by decide +kernel
theorem dX1_isKnown_5 : decode cX1_isKnown 5 = .ok (.aload_n 0, 1) := by decide +kernel
theorem dX1_isKnown_6 : decode cX1_isKnown 6 = .ok (.getfield 21, 3) := by decide +kernel
theorem dX1_isKnown_9 : decode cX1_isKnown 9 = .ok (.if_icmp .ge 7, 3) := by decide +kernel
theorem dX1_isKnown_12 : decode cX1_isKnown 12 = .ok (.iconst 1, 1) := by decide +kernel
theorem dX1_isKnown_13 : decode cX1_isKnown 13 = .ok (.goto 4, 3) := by decide +kernel
theorem dX1_isKnown_16 : decode cX1_isKnown 16 = .ok (.iconst 0, 1) := by decide +kernel
theorem dX1_isKnown_17 : decode cX1_isKnown 17 = .ok (.ireturn, 1) := by decide +kernel
theorem dX1_extend_0 : decode cX1_extend 0 = .ok (.sipush 200, 3) := by decide +kernel
theorem dX1_extend_3 : decode cX1_extend 3 = .ok (.aload_n 0, 1) := by decide +kernel
theorem dX1_extend_4 : decode cX1_extend 4 = .ok (.getfield 21, 3) := by decide +kernel
theorem dX1_extend_7 : decode cX1_extend 7 = .ok (.iload_n 1, 1) := by decide +kernel
theorem dX1_extend_8 : decode cX1_extend 8 = .ok (.iadd, 1) := by decide +kernel
theorem dX1_extend_9 : decode cX1_extend 9 = .ok (.invokestatic 25, 3) := by decide +kernel
theorem dX1_extend_12 : decode cX1_extend 12 = .ok (.istore 4, 2) := by decide +kernel
theorem dX1_extend_14 : decode cX1_extend 14 = .ok (.aload_n 0, 1) := by decide +kernel
theorem dX1_extend_15 : decode cX1_extend 15 = .ok (.getfield 21, 3) := by decide +kernel
theorem dX1_extend_18 : decode cX1_extend 18 = .ok (.istore 5, 2) := by decide +kernel
theorem dX1_extend_20 : decode cX1_extend 20 = .ok (.iload 5, 2) := by decide +kernel
theorem dX1_extend_22 : decode cX1_extend 22 = .ok (.iload 4, 2) := by decide +kernel
theorem dX1_extend_24 : decode cX1_extend 24 = .ok (.if_icmp .ge 25, 3) := by decide +kernel
theorem dX1_extend_27 : decode cX1_extend 27 = .ok (.aload_n 0, 1) := by decide +kernel
theorem dX1_extend_28 : decode cX1_extend 28 = .ok (.getfield 9, 3) := by decide +kernel
theorem dX1_extend_31 : decode cX1_extend 31 = .ok (.iload 5, 2) := by decide +kernel
theorem dX1_extend_33 : decode cX1_extend 33 = .ok (.iload_n 2, 1) := by decide +kernel
theorem dX1_extend_34 : decode cX1_extend 34 = .ok (.iastore, 1) := by decide +kernel
theorem dX1_extend_35 : decode cX1_extend 35 = .ok (.aload_n 0, 1) := by decide +kernel
theorem dX1_extend_36 : decode cX1_extend 36 = .ok (.getfield 15, 3) := by decide +kernel
theorem dX1_extend_39 : decode cX1_extend 39 = .ok (.iload 5, 2) := by decide +kernel
theorem dX1_extend_41 : decode cX1_extend 41 = .ok (.iload_n 3, 1) := by decide +kernel
theorem dX1_extend_42 : decode cX1_extend 42 = .ok (.iastore, 1) := by decide +kernel
theorem dX1_extend_43 : decode cX1_extend 43 = .ok (.iinc 5 1, 3) := by decide +kernel
theorem dX1_extend_46 : decode cX1_extend 46 = .ok (.goto (-26), 3) := by decide +kernel
theorem dX1_extend_49 : decode cX1_extend 49 = .ok (.aload_n 0, 1) := by decide +kernel
theorem dX1_extend_50 : decode cX1_extend 50 = .ok (.iload 4, 2) := by decide +kernel
theorem dX1_extend_52 : decode cX1_extend 52 = .ok (.putfield 21, 3) := by decide +kernel
theorem dX1_extend_55 : decode cX1_extend 55 = .ok (.return_, 1) := by decide +kernel
set_option maxRecDepth 20000 in
theorem ggX1_needOf_X1_isKnown : GoodIn wsX1_needOf wsX1_isKnown := goodIn_r _ [6, 7, 8, 9, 10, 11] (by decide +kernel) (by decide +kernel)
set_option maxRecDepth 20000 in
theorem gX1_needOf_X1_isKnown : GoodIn wsX1_needOf (wsV RX1 31 RX1 yX1_isKnown wsX1_isKnown) := goodIn_app (goodIn_of _ (by decide +kernel)) ggX1_needOf_X1_isKnown
theorem dX1_needOf_0 : decode cX1_needOf 0 = .ok (.aload_n 0, 1) := by decide +kernel
theorem dX1_needOf_1 : decode cX1_needOf 1 = .ok (.iload_n 1, 1) := by decide +kernel
theorem dX1_needOf_2 : decode cX1_needOf 2 = .ok (.invokevirtual 31, 3) := by decide +kernel
theorem dX1_needOf_5 : decode cX1_needOf 5 = .ok (.ifCond .eq 12, 3) := by decide +kernel
theorem dX1_needOf_8 : decode cX1_needOf 8 = .ok (.aload_n 0, 1) := by decide +kernel
theorem dX1_needOf_9 : decode cX1_needOf 9 = .ok (.getfield 9, 3) := by decide +kernel
theorem dX1_needOf_12 : decode cX1_needOf 12 = .ok (.iload_n 1, 1) := by decide +kernel
theorem dX1_needOf_13 : decode cX1_needOf 13 = .ok (.iaload, 1) := by decide +kernel
theorem dX1_needOf_14 : decode cX1_needOf 14 = .ok (.goto 4, 3) := by decide +kernel
theorem dX1_needOf_17 : decode cX1_needOf 17 = .ok (.iconst 0, 1) := by decide +kernel
theorem dX1_needOf_18 : decode cX1_needOf 18 = .ok (.ireturn, 1) := by decide +kernel
set_option maxRecDepth 20000 in
theorem ggX1_weaknessOf_X1_isKnown : GoodIn wsX1_weaknessOf wsX1_isKnown := goodIn_r _ [6, 7, 8, 9, 10, 11] (by decide +kernel) (by decide +kernel)
set_option maxRecDepth 20000 in
theorem gX1_weaknessOf_X1_isKnown : GoodIn wsX1_weaknessOf (wsV RX1 31 RX1 yX1_isKnown wsX1_isKnown) := goodIn_app (goodIn_of _ (by decide +kernel)) ggX1_weaknessOf_X1_isKnown
theorem dX1_weaknessOf_0 : decode cX1_weaknessOf 0 = .ok (.aload_n 0, 1) := by decide +kernel
theorem dX1_weaknessOf_1 : decode cX1_weaknessOf 1 = .ok (.iload_n 1, 1) := by decide +kernel
theorem dX1_weaknessOf_2 : decode cX1_weaknessOf 2 = .ok (.invokevirtual 31, 3) := by decide +kernel
theorem dX1_weaknessOf_5 : decode cX1_weaknessOf 5 = .ok (.ifCond .eq 12, 3) := by decide +kernel
theorem dX1_weaknessOf_8 : decode cX1_weaknessOf 8 = .ok (.aload_n 0, 1) := by decide +kernel
theorem dX1_weaknessOf_9 : decode cX1_weaknessOf 9 = .ok (.getfield 15, 3) := by decide +kernel
theorem dX1_weaknessOf_12 : decode cX1_weaknessOf 12 = .ok (.iload_n 1, 1) := by decide +kernel
theorem dX1_weaknessOf_13 : decode cX1_weaknessOf 13 = .ok (.iaload, 1) := by decide +kernel
theorem dX1_weaknessOf_14 : decode cX1_weaknessOf 14 = .ok (.goto 4, 3) := by decide +kernel
theorem dX1_weaknessOf_17 : decode cX1_weaknessOf 17 = .ok (.iconst 0, 1) := by decide +kernel
theorem dX1_weaknessOf_18 : decode cX1_weaknessOf 18 = .ok (.ireturn, 1) := by decide +kernel
set_option maxRecDepth 20000 in
theorem ggX1_sinkingOver_X1_isKnown : GoodIn wsX1_sinkingOver wsX1_isKnown := goodIn_r _ [6, 7, 8, 9, 10, 11] (by decide +kernel) (by decide +kernel)
set_option maxRecDepth 20000 in
theorem gX1_sinkingOver_X1_isKnown : GoodIn wsX1_sinkingOver (wsV RX1 31 RX1 yX1_isKnown wsX1_isKnown) := goodIn_app (goodIn_of _ (by decide +kernel)) ggX1_sinkingOver_X1_isKnown
theorem dX1_sinkingOver_0 : decode cX1_sinkingOver 0 = .ok (.aload_n 0, 1) := by decide +kernel
theorem dX1_sinkingOver_1 : decode cX1_sinkingOver 1 = .ok (.iload_n 1, 1) := by decide +kernel
theorem dX1_sinkingOver_2 : decode cX1_sinkingOver 2 = .ok (.invokevirtual 31, 3) := by decide +kernel
theorem dX1_sinkingOver_5 : decode cX1_sinkingOver 5 = .ok (.ifCond .eq 12, 3) := by decide +kernel
theorem dX1_sinkingOver_8 : decode cX1_sinkingOver 8 = .ok (.aload_n 0, 1) := by decide +kernel
theorem dX1_sinkingOver_9 : decode cX1_sinkingOver 9 = .ok (.getfield 18, 3) := by decide +kernel
theorem dX1_sinkingOver_12 : decode cX1_sinkingOver 12 = .ok (.iload_n 1, 1) := by decide +kernel
theorem dX1_sinkingOver_13 : decode cX1_sinkingOver 13 = .ok (.iaload, 1) := by decide +kernel
theorem dX1_sinkingOver_14 : decode cX1_sinkingOver 14 = .ok (.goto 4, 3) := by decide +kernel
theorem dX1_sinkingOver_17 : decode cX1_sinkingOver 17 = .ok (.iconst 0, 1) := by decide +kernel
theorem dX1_sinkingOver_18 : decode cX1_sinkingOver 18 = .ok (.ireturn, 1) := by decide +kernel
set_option maxRecDepth 20000 in
theorem ggX1_missing_X1_needOf : GoodIn wsX1_missing wsX1_needOf := goodIn_ca (goodIn_r _ [9, 10, 11, 12, 13, 8, 14, 15, 16, 17, 18, 19] (by decide +kernel) (by decide +kernel)) (goodIn_sub (fun _ h => List.mem_cons_of_mem _ (List.mem_append_right _ h)) (by decide +kernel))
set_option maxRecDepth 20000 in
theorem gX1_missing_X1_needOf : GoodIn wsX1_missing (wsV RX1 35 RX1 yX1_needOf wsX1_needOf) := goodIn_app (goodIn_of _ (by decide +kernel)) ggX1_missing_X1_needOf
theorem dX1_missing_0 : decode cX1_missing 0 = .ok (.iconst 0, 1) := by decide +kernel
theorem dX1_missing_1 : decode cX1_missing 1 = .ok (.aload_n 0, 1) := by decide +kernel
theorem dX1_missing_2 : decode cX1_missing 2 = .ok (.iload_n 1, 1) := by decide +kernel
theorem dX1_missing_3 : decode cX1_missing 3 = .ok (.invokevirtual 35, 3) := by decide +kernel
theorem dX1_missing_6 : decode cX1_missing 6 = .ok (.iload_n 2, 1) := by decide +kernel
theorem dX1_missing_7 : decode cX1_missing 7 = .ok (.isub, 1) := by decide +kernel
theorem dX1_missing_8 : decode cX1_missing 8 = .ok (.invokestatic 39, 3) := by decide +kernel
theorem dX1_missing_11 : decode cX1_missing 11 = .ok (.ireturn, 1) := by decide +kernel
set_option maxRecDepth 20000 in
theorem ggX1_sink_X1_isKnown : GoodIn wsX1_sink wsX1_isKnown := goodIn_r _ [6, 7, 8, 9, 10, 11] (by decide +kernel) (by decide +kernel)
set_option maxRecDepth 20000 in
theorem gX1_sink_X1_isKnown : GoodIn wsX1_sink (wsV RX1 31 RX1 yX1_isKnown wsX1_isKnown) := goodIn_app (goodIn_of _ (by decide +kernel)) ggX1_sink_X1_isKnown
theorem dX1_sink_0 : decode cX1_sink 0 = .ok (.aload_n 0, 1) := by decide +kernel
theorem dX1_sink_1 : decode cX1_sink 1 = .ok (.iload_n 1, 1) := by decide +kernel
theorem dX1_sink_2 : decode cX1_sink 2 = .ok (.invokevirtual 31, 3) := by decide +kernel
theorem dX1_sink_5 : decode cX1_sink 5 = .ok (.ifCond .eq 13, 3) := by decide +kernel
theorem dX1_sink_8 : decode cX1_sink 8 = .ok (.aload_n 0, 1) := by decide +kernel
theorem dX1_sink_9 : decode cX1_sink 9 = .ok (.getfield 18, 3) := by decide +kernel
theorem dX1_sink_12 : decode cX1_sink 12 = .ok (.iload_n 1, 1) := by decide +kernel
theorem dX1_sink_13 : decode cX1_sink 13 = .ok (.dup2, 1) := by decide +kernel
theorem dX1_sink_14 : decode cX1_sink 14 = .ok (.iaload, 1) := by decide +kernel
theorem dX1_sink_15 : decode cX1_sink 15 = .ok (.iload_n 2, 1) := by decide +kernel
theorem dX1_sink_16 : decode cX1_sink 16 = .ok (.iadd, 1) := by decide +kernel
theorem dX1_sink_17 : decode cX1_sink 17 = .ok (.iastore, 1) := by decide +kernel
theorem dX1_sink_18 : decode cX1_sink 18 = .ok (.return_, 1) := by decide +kernel
theorem dX2_init_0 : decode cX2_init 0 = .ok (.aload_n 0, 1) := by decide +kernel
theorem dX2_init_1 : decode cX2_init 1 = .ok (.invokespecial 3, 3) := by decide +kernel
theorem dX2_init_4 : decode cX2_init 4 = .ok (.aload_n 0, 1) := by decide +kernel
theorem dX2_init_5 : decode cX2_init 5 = .ok (.bipush 8, 2) := by decide +kernel
theorem dX2_init_7 : decode cX2_init 7 = .ok (.newarray .int, 2) := by decide +kernel
theorem dX2_init_9 : decode cX2_init 9 = .ok (.putfield 9, 3) := by decide +kernel
theorem dX2_init_12 : decode cX2_init 12 = .ok (.aload_n 0, 1) := by decide +kernel
theorem dX2_init_13 : decode cX2_init 13 = .ok (.bipush 8, 2) := by decide +kernel
theorem dX2_init_15 : decode cX2_init 15 = .ok (.newarray .int, 2) := by decide +kernel
theorem dX2_init_17 : decode cX2_init 17 = .ok (.putfield 15, 3) := by decide +kernel
theorem dX2_init_20 : decode cX2_init 20 = .ok (.aload_n 0, 1) := by decide +kernel
theorem dX2_init_21 : decode cX2_init 21 = .ok (.bipush 8, 2) := by decide +kernel
theorem dX2_init_23 : decode cX2_init 23 = .ok (.newarray .int, 2) := by decide +kernel
theorem dX2_init_25 : decode cX2_init 25 = .ok (.putfield 18, 3) := by decide +kernel
theorem dX2_init_28 : decode cX2_init 28 = .ok (.aload_n 0, 1) := by decide +kernel
theorem dX2_init_29 : decode cX2_init 29 = .ok (.bipush 8, 2) := by decide +kernel
theorem dX2_init_31 : decode cX2_init 31 = .ok (.newarray .int, 2) := by decide +kernel
theorem dX2_init_33 : decode cX2_init 33 = .ok (.putfield 21, 3) := by decide +kernel
theorem dX2_init_36 : decode cX2_init 36 = .ok (.aload_n 0, 1) := by decide +kernel
theorem dX2_init_37 : decode cX2_init 37 = .ok (.bipush 8, 2) := by decide +kernel
theorem dX2_init_39 : decode cX2_init 39 = .ok (.newarray .int, 2) := by decide +kernel
theorem dX2_init_41 : decode cX2_init 41 = .ok (.putfield 24, 3) := by decide +kernel
theorem dX2_init_44 : decode cX2_init 44 = .ok (.return_, 1) := by decide +kernel
theorem dX2_build_0 : decode cX2_build 0 = .ok (.aload_n 0, 1) := by decide +kernel
theorem dX2_build_1 : decode cX2_build 1 = .ok (.getfield 27, 3) := by decide +kernel
theorem dX2_build_4 : decode cX2_build 4 = .ok (.istore 5, 2) := by decide +kernel
theorem dX2_build_6 : decode cX2_build 6 = .ok (.aload_n 0, 1) := by decide +kernel
theorem dX2_build_7 : decode cX2_build 7 = .ok (.getfield 9, 3) := by decide +kernel
theorem dX2_build_10 : decode cX2_build 10 = .ok (.iload 5, 2) := by decide +kernel
theorem dX2_build_12 : decode cX2_build 12 = .ok (.iload_n 1, 1) := by decide +kernel
theorem dX2_build_13 : decode cX2_build 13 = .ok (.iastore, 1) := by decide +kernel
theorem dX2_build_14 : decode cX2_build 14 = .ok (.aload_n 0, 1) := by decide +kernel
theorem dX2_build_15 : decode cX2_build 15 = .ok (.getfield 15, 3) := by decide +kernel
theorem dX2_build_18 : decode cX2_build 18 = .ok (.iload 5, 2) := by decide +kernel
theorem dX2_build_20 : decode cX2_build 20 = .ok (.iload_n 2, 1) := by decide +kernel
theorem dX2_build_21 : decode cX2_build 21 = .ok (.iastore, 1) := by decide +kernel
theorem dX2_build_22 : decode cX2_build 22 = .ok (.aload_n 0, 1) := by decide +kernel
theorem dX2_build_23 : decode cX2_build 23 = .ok (.getfield 18, 3) := by decide +kernel
theorem dX2_build_26 : decode cX2_build 26 = .ok (.iload 5, 2) := by decide +kernel
theorem dX2_build_28 : decode cX2_build 28 = .ok (.iload_n 3, 1) := by decide +kernel
theorem dX2_build_29 : decode cX2_build 29 = .ok (.iastore, 1) := by decide +kernel
theorem dX2_build_30 : decode cX2_build 30 = .ok (.aload_n 0, 1) := by decide +kernel
theorem dX2_build_31 : decode cX2_build 31 = .ok (.getfield 21, 3) := by decide +kernel
theorem dX2_build_34 : decode cX2_build 34 = .ok (.iload 5, 2) := by decide +kernel
theorem dX2_build_36 : decode cX2_build 36 = .ok (.iload 4, 2) := by decide +kernel
theorem dX2_build_38 : decode cX2_build 38 = .ok (.iastore, 1) := by decide +kernel
theorem dX2_build_39 : decode cX2_build 39 = .ok (.aload_n 0, 1) := by decide +kernel
theorem dX2_build_40 : decode cX2_build 40 = .ok (.iload 5, 2) := by decide +kernel
theorem dX2_build_42 : decode cX2_build 42 = .ok (.iconst 1, 1) := by decide +kernel
theorem dX2_build_43 : decode cX2_build 43 = .ok (.iadd, 1) := by decide +kernel
theorem dX2_build_44 : decode cX2_build 44 = .ok (.putfield 27, 3) := by decide +kernel
theorem dX2_build_47 : decode cX2_build 47 = .ok (.iload 5, 2) := by decide +kernel
theorem dX2_build_49 : decode cX2_build 49 = .ok (.ireturn, 1) := by decide +kernel
theorem dX3_init_0 : decode cX3_init 0 = .ok (.aload_n 0, 1) := by decide +kernel
theorem dX3_init_1 : decode cX3_init 1 = .ok (.invokespecial 3, 3) := by decide +kernel
theorem dX3_init_4 : decode cX3_init 4 = .ok (.aload_n 0, 1) := by decide +kernel
theorem dX3_init_5 : decode cX3_init 5 = .ok (.sipush 200, 3) := by decide +kernel
theorem dX3_init_8 : decode cX3_init 8 = .ok (.newarray .int, 2) := by decide +kernel
theorem dX3_init_10 : decode cX3_init 10 = .ok (.putfield 9, 3) := by decide +kernel
theorem dX3_init_13 : decode cX3_init 13 = .ok (.aload_n 0, 1) := by decide +kernel
theorem dX3_init_14 : decode cX3_init 14 = .ok (.sipush 200, 3) := by decide +kernel
theorem dX3_init_17 : decode cX3_init 17 = .ok (.newarray .int, 2) := by decide +kernel
theorem dX3_init_19 : decode cX3_init 19 = .ok (.putfield 15, 3) := by decide +kernel
theorem dX3_init_22 : decode cX3_init 22 = .ok (.return_, 1) := by decide +kernel
theorem dX3_extend_0 : decode cX3_extend 0 = .ok (.sipush 200, 3) := by decide +kernel
theorem dX3_extend_3 : decode cX3_extend 3 = .ok (.aload_n 0, 1) := by decide +kernel
theorem dX3_extend_4 : decode cX3_extend 4 = .ok (.getfield 18, 3) := by decide +kernel
theorem dX3_extend_7 : decode cX3_extend 7 = .ok (.iload_n 1, 1) := by decide +kernel
theorem dX3_extend_8 : decode cX3_extend 8 = .ok (.iadd, 1) := by decide +kernel
theorem dX3_extend_9 : decode cX3_extend 9 = .ok (.invokestatic 22, 3) := by decide +kernel
theorem dX3_extend_12 : decode cX3_extend 12 = .ok (.istore 4, 2) := by decide +kernel
theorem dX3_extend_14 : decode cX3_extend 14 = .ok (.aload_n 0, 1) := by decide +kernel
theorem dX3_extend_15 : decode cX3_extend 15 = .ok (.getfield 18, 3) := by decide +kernel
theorem dX3_extend_18 : decode cX3_extend 18 = .ok (.istore 5, 2) := by decide +kernel
theorem dX3_extend_20 : decode cX3_extend 20 = .ok (.iload 5, 2) := by decide +kernel
theorem dX3_extend_22 : decode cX3_extend 22 = .ok (.iload 4, 2) := by decide +kernel
theorem dX3_extend_24 : decode cX3_extend 24 = .ok (.if_icmp .ge 25, 3) := by decide +kernel
theorem dX3_extend_27 : decode cX3_extend 27 = .ok (.aload_n 0, 1) := by decide +kernel
theorem dX3_extend_28 : decode cX3_extend 28 = .ok (.getfield 9, 3) := by decide +kernel
theorem dX3_extend_31 : decode cX3_extend 31 = .ok (.iload 5, 2) := by decide +kernel
theorem dX3_extend_33 : decode cX3_extend 33 = .ok (.iload_n 2, 1) := by decide +kernel
theorem dX3_extend_34 : decode cX3_extend 34 = .ok (.iastore, 1) := by decide +kernel
theorem dX3_extend_35 : decode cX3_extend 35 = .ok (.aload_n 0, 1) := by decide +kernel
theorem dX3_extend_36 : decode cX3_extend 36 = .ok (.getfield 15, 3) := by decide +kernel
theorem dX3_extend_39 : decode cX3_extend 39 = .ok (.iload 5, 2) := by decide +kernel
theorem dX3_extend_41 : decode cX3_extend 41 = .ok (.iload_n 3, 1) := by decide +kernel
theorem dX3_extend_42 : decode cX3_extend 42 = .ok (.iastore, 1) := by decide +kernel
theorem dX3_extend_43 : decode cX3_extend 43 = .ok (.iinc 5 1, 3) := by decide +kernel
theorem dX3_extend_46 : decode cX3_extend 46 = .ok (.goto (-26), 3) := by decide +kernel
theorem dX3_extend_49 : decode cX3_extend 49 = .ok (.aload_n 0, 1) := by decide +kernel
theorem dX3_extend_50 : decode cX3_extend 50 = .ok (.iload 4, 2) := by decide +kernel
theorem dX3_extend_52 : decode cX3_extend 52 = .ok (.putfield 18, 3) := by decide +kernel
theorem dX3_extend_55 : decode cX3_extend 55 = .ok (.return_, 1) := by decide +kernel
theorem dX3_sideBend_0 : decode cX3_sideBend 0 = .ok (.iload_n 1, 1) := by decide +kernel
theorem dX3_sideBend_1 : decode cX3_sideBend 1 = .ok (.ifCond .lt 20, 3) := by decide +kernel
theorem dX3_sideBend_4 : decode cX3_sideBend 4 = .ok (.iload_n 1, 1) := by decide +kernel
theorem dX3_sideBend_5 : decode cX3_sideBend 5 = .ok (.aload_n 0, 1) := by decide +kernel
theorem dX3_sideBend_6 : decode cX3_sideBend 6 = .ok (.getfield 18, 3) := by decide +kernel
theorem dX3_sideBend_9 : decode cX3_sideBend 9 = .ok (.if_icmp .ge 12, 3) := by decide +kernel
theorem dX3_sideBend_12 : decode cX3_sideBend 12 = .ok (.aload_n 0, 1) := by decide +kernel
theorem dX3_sideBend_13 : decode cX3_sideBend 13 = .ok (.getfield 9, 3) := by decide +kernel
theorem dX3_sideBend_16 : decode cX3_sideBend 16 = .ok (.iload_n 1, 1) := by decide +kernel
theorem dX3_sideBend_17 : decode cX3_sideBend 17 = .ok (.iaload, 1) := by decide +kernel
theorem dX3_sideBend_18 : decode cX3_sideBend 18 = .ok (.goto 4, 3) := by decide +kernel
theorem dX3_sideBend_21 : decode cX3_sideBend 21 = .ok (.iconst 0, 1) := by decide +kernel
theorem dX3_sideBend_22 : decode cX3_sideBend 22 = .ok (.ireturn, 1) := by decide +kernel
theorem dX3_upBend_0 : decode cX3_upBend 0 = .ok (.iload_n 1, 1) := by decide +kernel
theorem dX3_upBend_1 : decode cX3_upBend 1 = .ok (.ifCond .lt 20, 3) := by decide +kernel
theorem dX3_upBend_4 : decode cX3_upBend 4 = .ok (.iload_n 1, 1) := by decide +kernel
theorem dX3_upBend_5 : decode cX3_upBend 5 = .ok (.aload_n 0, 1) := by decide +kernel
theorem dX3_upBend_6 : decode cX3_upBend 6 = .ok (.getfield 18, 3) := by decide +kernel
theorem dX3_upBend_9 : decode cX3_upBend 9 = .ok (.if_icmp .ge 12, 3) := by decide +kernel
theorem dX3_upBend_12 : decode cX3_upBend 12 = .ok (.aload_n 0, 1) := by decide +kernel
theorem dX3_upBend_13 : decode cX3_upBend 13 = .ok (.getfield 15, 3) := by decide +kernel
theorem dX3_upBend_16 : decode cX3_upBend 16 = .ok (.iload_n 1, 1) := by decide +kernel
theorem dX3_upBend_17 : decode cX3_upBend 17 = .ok (.iaload, 1) := by decide +kernel
theorem dX3_upBend_18 : decode cX3_upBend 18 = .ok (.goto 4, 3) := by decide +kernel
theorem dX3_upBend_21 : decode cX3_upBend 21 = .ok (.iconst 0, 1) := by decide +kernel
theorem dX3_upBend_22 : decode cX3_upBend 22 = .ok (.ireturn, 1) := by decide +kernel
set_option maxRecDepth 20000 in
theorem ggX4_init_X0_init : GoodIn wsX4_init wsX0_init := goodIn_r _ [13, 14, 2, 3] (by decide +kernel) (by decide +kernel)
set_option maxRecDepth 20000 in
theorem gX4_init_X0_init_n11 : GoodIn wsX4_init (wsX0_init) := ggX4_init_X0_init
theorem dX4_init_0 : decode cX4_init 0 = .ok (.aload_n 0, 1) := by decide +kernel
theorem dX4_init_1 : decode cX4_init 1 = .ok (.invokespecial 3, 3) := by decide +kernel
theorem dX4_init_4 : decode cX4_init 4 = .ok (.aload_n 0, 1) := by decide +kernel
theorem dX4_init_5 : decode cX4_init 5 = .ok (.new 9, 3) := by decide +kernel
theorem dX4_init_8 : decode cX4_init 8 = .ok (.dup, 1) := by decide +kernel
theorem dX4_init_9 : decode cX4_init 9 = .ok (.invokespecial 11, 3) := by decide +kernel
theorem dX4_init_12 : decode cX4_init 12 = .ok (.putfield 12, 3) := by decide +kernel
theorem dX4_init_15 : decode cX4_init 15 = .ok (.aload_n 0, 1) := by decide +kernel
theorem dX4_init_16 : decode cX4_init 16 = .ok (.iconst 4, 1) := by decide +kernel
theorem dX4_init_17 : decode cX4_init 17 = .ok (.newarray .int, 2) := by decide +kernel
theorem dX4_init_19 : decode cX4_init 19 = .ok (.putfield 18, 3) := by decide +kernel
theorem dX4_init_22 : decode cX4_init 22 = .ok (.aload_n 0, 1) := by decide +kernel
theorem dX4_init_23 : decode cX4_init 23 = .ok (.iconst 4, 1) := by decide +kernel
theorem dX4_init_24 : decode cX4_init 24 = .ok (.newarray .int, 2) := by decide +kernel
theorem dX4_init_26 : decode cX4_init 26 = .ok (.putfield 22, 3) := by decide +kernel
theorem dX4_init_29 : decode cX4_init 29 = .ok (.aload_n 0, 1) := by decide +kernel
theorem dX4_init_30 : decode cX4_init 30 = .ok (.iconst 4, 1) := by decide +kernel
theorem dX4_init_31 : decode cX4_init 31 = .ok (.newarray .int, 2) := by decide +kernel
theorem dX4_init_33 : decode cX4_init 33 = .ok (.putfield 25, 3) := by decide +kernel
theorem dX4_init_36 : decode cX4_init 36 = .ok (.return_, 1) := by decide +kernel
theorem dX4_restart_0 : decode cX4_restart 0 = .ok (.aload_n 0, 1) := by decide +kernel
theorem dX4_restart_1 : decode cX4_restart 1 = .ok (.getfield 12, 3) := by decide +kernel
theorem dX4_restart_4 : decode cX4_restart 4 = .ok (.aload_n 1, 1) := by decide +kernel
theorem dX4_restart_5 : decode cX4_restart 5 = .ok (.getfield 28, 3) := by decide +kernel
theorem dX4_restart_8 : decode cX4_restart 8 = .ok (.aload_n 2, 1) := by decide +kernel
theorem dX4_restart_9 : decode cX4_restart 9 = .ok (.getfield 28, 3) := by decide +kernel
theorem dX4_restart_12 : decode cX4_restart 12 = .ok (.isub, 1) := by decide +kernel
theorem dX4_restart_13 : decode cX4_restart 13 = .ok (.putfield 28, 3) := by decide +kernel
theorem dX4_restart_16 : decode cX4_restart 16 = .ok (.aload_n 0, 1) := by decide +kernel
theorem dX4_restart_17 : decode cX4_restart 17 = .ok (.getfield 12, 3) := by decide +kernel
theorem dX4_restart_20 : decode cX4_restart 20 = .ok (.aload_n 1, 1) := by decide +kernel
theorem dX4_restart_21 : decode cX4_restart 21 = .ok (.getfield 32, 3) := by decide +kernel
theorem dX4_restart_24 : decode cX4_restart 24 = .ok (.aload_n 2, 1) := by decide +kernel
theorem dX4_restart_25 : decode cX4_restart 25 = .ok (.getfield 32, 3) := by decide +kernel
theorem dX4_restart_28 : decode cX4_restart 28 = .ok (.isub, 1) := by decide +kernel
theorem dX4_restart_29 : decode cX4_restart 29 = .ok (.putfield 32, 3) := by decide +kernel
theorem dX4_restart_32 : decode cX4_restart 32 = .ok (.aload_n 0, 1) := by decide +kernel
theorem dX4_restart_33 : decode cX4_restart 33 = .ok (.getfield 12, 3) := by decide +kernel
theorem dX4_restart_36 : decode cX4_restart 36 = .ok (.aload_n 1, 1) := by decide +kernel
theorem dX4_restart_37 : decode cX4_restart 37 = .ok (.getfield 35, 3) := by decide +kernel
theorem dX4_restart_40 : decode cX4_restart 40 = .ok (.aload_n 2, 1) := by decide +kernel
theorem dX4_restart_41 : decode cX4_restart 41 = .ok (.getfield 35, 3) := by decide +kernel
theorem dX4_restart_44 : decode cX4_restart 44 = .ok (.isub, 1) := by decide +kernel
theorem dX4_restart_45 : decode cX4_restart 45 = .ok (.putfield 35, 3) := by decide +kernel
theorem dX4_restart_48 : decode cX4_restart 48 = .ok (.aload_n 0, 1) := by decide +kernel
theorem dX4_restart_49 : decode cX4_restart 49 = .ok (.getfield 12, 3) := by decide +kernel
theorem dX4_restart_52 : decode cX4_restart 52 = .ok (.aload_n 1, 1) := by decide +kernel
theorem dX4_restart_53 : decode cX4_restart 53 = .ok (.getfield 38, 3) := by decide +kernel
theorem dX4_restart_56 : decode cX4_restart 56 = .ok (.aload_n 2, 1) := by decide +kernel
theorem dX4_restart_57 : decode cX4_restart 57 = .ok (.getfield 38, 3) := by decide +kernel
theorem dX4_restart_60 : decode cX4_restart 60 = .ok (.isub, 1) := by decide +kernel
theorem dX4_restart_61 : decode cX4_restart 61 = .ok (.putfield 38, 3) := by decide +kernel
theorem dX4_restart_64 : decode cX4_restart 64 = .ok (.aload_n 0, 1) := by decide +kernel
theorem dX4_restart_65 : decode cX4_restart 65 = .ok (.iconst 0, 1) := by decide +kernel
theorem dX4_restart_66 : decode cX4_restart 66 = .ok (.putfield 41, 3) := by decide +kernel
theorem dX4_restart_69 : decode cX4_restart 69 = .ok (.aload_n 0, 1) := by decide +kernel
theorem dX4_restart_70 : decode cX4_restart 70 = .ok (.ldc 44, 2) := by decide +kernel
theorem dX4_restart_72 : decode cX4_restart 72 = .ok (.putfield 45, 3) := by decide +kernel
theorem dX4_restart_75 : decode cX4_restart 75 = .ok (.return_, 1) := by decide +kernel
theorem dX4_add_0 : decode cX4_add 0 = .ok (.aload_n 0, 1) := by decide +kernel
theorem dX4_add_1 : decode cX4_add 1 = .ok (.getfield 41, 3) := by decide +kernel
theorem dX4_add_4 : decode cX4_add 4 = .ok (.iconst 4, 1) := by decide +kernel
theorem dX4_add_5 : decode cX4_add 5 = .ok (.if_icmp .ge 43, 3) := by decide +kernel
theorem dX4_add_8 : decode cX4_add 8 = .ok (.aload_n 0, 1) := by decide +kernel
theorem dX4_add_9 : decode cX4_add 9 = .ok (.getfield 18, 3) := by decide +kernel
theorem dX4_add_12 : decode cX4_add 12 = .ok (.aload_n 0, 1) := by decide +kernel
theorem dX4_add_13 : decode cX4_add 13 = .ok (.getfield 41, 3) := by decide +kernel
theorem dX4_add_16 : decode cX4_add 16 = .ok (.iload_n 1, 1) := by decide +kernel
theorem dX4_add_17 : decode cX4_add 17 = .ok (.iastore, 1) := by decide +kernel
theorem dX4_add_18 : decode cX4_add 18 = .ok (.aload_n 0, 1) := by decide +kernel
theorem dX4_add_19 : decode cX4_add 19 = .ok (.getfield 22, 3) := by decide +kernel
theorem dX4_add_22 : decode cX4_add 22 = .ok (.aload_n 0, 1) := by decide +kernel
theorem dX4_add_23 : decode cX4_add 23 = .ok (.getfield 41, 3) := by decide +kernel
theorem dX4_add_26 : decode cX4_add 26 = .ok (.iload_n 2, 1) := by decide +kernel
theorem dX4_add_27 : decode cX4_add 27 = .ok (.iastore, 1) := by decide +kernel
theorem dX4_add_28 : decode cX4_add 28 = .ok (.aload_n 0, 1) := by decide +kernel
theorem dX4_add_29 : decode cX4_add 29 = .ok (.getfield 25, 3) := by decide +kernel
theorem dX4_add_32 : decode cX4_add 32 = .ok (.aload_n 0, 1) := by decide +kernel
theorem dX4_add_33 : decode cX4_add 33 = .ok (.getfield 41, 3) := by decide +kernel
theorem dX4_add_36 : decode cX4_add 36 = .ok (.iload_n 3, 1) := by decide +kernel
theorem dX4_add_37 : decode cX4_add 37 = .ok (.iastore, 1) := by decide +kernel
theorem dX4_add_38 : decode cX4_add 38 = .ok (.aload_n 0, 1) := by decide +kernel
theorem dX4_add_39 : decode cX4_add 39 = .ok (.dup, 1) := by decide +kernel
theorem dX4_add_40 : decode cX4_add 40 = .ok (.getfield 41, 3) := by decide +kernel
theorem dX4_add_43 : decode cX4_add 43 = .ok (.iconst 1, 1) := by decide +kernel
theorem dX4_add_44 : decode cX4_add 44 = .ok (.iadd, 1) := by decide +kernel
theorem dX4_add_45 : decode cX4_add 45 = .ok (.putfield 41, 3) := by decide +kernel
theorem dX4_add_48 : decode cX4_add 48 = .ok (.return_, 1) := by decide +kernel
set_option maxRecDepth 20000 in
theorem ggX4_tryOut_X4_changeX : GoodIn wsX4_tryOut wsX4_changeX := goodIn_ca (goodIn_r _ [6, 7, 8, 23, 24, 25, 26, 27, 28] (by decide +kernel) (by decide +kernel)) (goodIn_sub (fun _ h => List.mem_cons_of_mem _ (List.mem_append_right _ h)) (by decide +kernel))
set_option maxRecDepth 20000 in
theorem gX4_tryOut_X4_changeX : GoodIn wsX4_tryOut (wsV RX4 48 RX4 yX4_changeX wsX4_changeX) := goodIn_app (goodIn_of _ (by decide +kernel)) ggX4_tryOut_X4_changeX
set_option maxRecDepth 20000 in
theorem ggX4_tryOut_X4_changeY : GoodIn wsX4_tryOut wsX4_changeY := goodIn_ca (goodIn_r _ [12, 7, 13, 23, 24, 25, 26, 27, 28] (by decide +kernel) (by decide +kernel)) (goodIn_sub (fun _ h => List.mem_cons_of_mem _ (List.mem_append_right _ h)) (by decide +kernel))
set_option maxRecDepth 20000 in
theorem gX4_tryOut_X4_changeY : GoodIn wsX4_tryOut (wsV RX4 52 RX4 yX4_changeY wsX4_changeY) := goodIn_app (goodIn_of _ (by decide +kernel)) ggX4_tryOut_X4_changeY
set_option maxRecDepth 20000 in
theorem ggX4_tryOut_X0_bend : GoodIn wsX4_tryOut wsX0_bend := goodIn_r _ [18, 19, 20, 21, 22, 29, 30, 31, 32] (by decide +kernel) (by decide +kernel)
set_option maxRecDepth 20000 in
theorem gX4_tryOut_X0_bend : GoodIn wsX4_tryOut (wsV RX4 55 RX0 yX0_bend wsX0_bend) := goodIn_app (goodIn_of _ (by decide +kernel)) ggX4_tryOut_X0_bend
theorem dX4_tryOut_0 : decode cX4_tryOut 0 = .ok (.aload_n 0, 1) := by decide +kernel
theorem dX4_tryOut_1 : decode cX4_tryOut 1 = .ok (.getfield 12, 3) := by decide +kernel
theorem dX4_tryOut_4 : decode cX4_tryOut 4 = .ok (.aload_n 0, 1) := by decide +kernel
theorem dX4_tryOut_5 : decode cX4_tryOut 5 = .ok (.iload_n 1, 1) := by decide +kernel
theorem dX4_tryOut_6 : decode cX4_tryOut 6 = .ok (.iload_n 2, 1) := by decide +kernel
theorem dX4_tryOut_7 : decode cX4_tryOut 7 = .ok (.invokevirtual 48, 3) := by decide +kernel
theorem dX4_tryOut_10 : decode cX4_tryOut 10 = .ok (.aload_n 0, 1) := by decide +kernel
theorem dX4_tryOut_11 : decode cX4_tryOut 11 = .ok (.iload_n 1, 1) := by decide +kernel
theorem dX4_tryOut_12 : decode cX4_tryOut 12 = .ok (.iload_n 2, 1) := by decide +kernel
theorem dX4_tryOut_13 : decode cX4_tryOut 13 = .ok (.invokevirtual 52, 3) := by decide +kernel
theorem dX4_tryOut_16 : decode cX4_tryOut 16 = .ok (.invokevirtual 55, 3) := by decide +kernel
theorem dX4_tryOut_19 : decode cX4_tryOut 19 = .ok (.return_, 1) := by decide +kernel
set_option maxRecDepth 20000 in
theorem ggX4_takeBack_X4_changeX : GoodIn wsX4_takeBack wsX4_changeX := goodIn_ca (goodIn_r _ [6, 7, 8, 23, 24, 25, 26, 27, 28] (by decide +kernel) (by decide +kernel)) (goodIn_sub (fun _ h => List.mem_cons_of_mem _ (List.mem_append_right _ h)) (by decide +kernel))
set_option maxRecDepth 20000 in
theorem gX4_takeBack_X4_changeX : GoodIn wsX4_takeBack (wsV RX4 48 RX4 yX4_changeX wsX4_changeX) := goodIn_app (goodIn_of _ (by decide +kernel)) ggX4_takeBack_X4_changeX
set_option maxRecDepth 20000 in
theorem ggX4_takeBack_X4_changeY : GoodIn wsX4_takeBack wsX4_changeY := goodIn_ca (goodIn_r _ [12, 7, 13, 23, 24, 25, 26, 27, 28] (by decide +kernel) (by decide +kernel)) (goodIn_sub (fun _ h => List.mem_cons_of_mem _ (List.mem_append_right _ h)) (by decide +kernel))
set_option maxRecDepth 20000 in
theorem gX4_takeBack_X4_changeY : GoodIn wsX4_takeBack (wsV RX4 52 RX4 yX4_changeY wsX4_changeY) := goodIn_app (goodIn_of _ (by decide +kernel)) ggX4_takeBack_X4_changeY
set_option maxRecDepth 20000 in
theorem ggX4_takeBack_X0_unbend : GoodIn wsX4_takeBack wsX0_unbend := goodIn_r _ [18, 19, 20, 21, 22, 29, 30, 31, 32] (by decide +kernel) (by decide +kernel)
set_option maxRecDepth 20000 in
theorem gX4_takeBack_X0_unbend : GoodIn wsX4_takeBack (wsV RX4 59 RX0 yX0_unbend wsX0_unbend) := goodIn_app (goodIn_of _ (by decide +kernel)) ggX4_takeBack_X0_unbend
theorem dX4_takeBack_0 : decode cX4_takeBack 0 = .ok (.aload_n 0, 1) := by decide +kernel
theorem dX4_takeBack_1 : decode cX4_takeBack 1 = .ok (.getfield 12, 3) := by decide +kernel
theorem dX4_takeBack_4 : decode cX4_takeBack 4 = .ok (.aload_n 0, 1) := by decide +kernel
theorem dX4_takeBack_5 : decode cX4_takeBack 5 = .ok (.iload_n 1, 1) := by decide +kernel
theorem dX4_takeBack_6 : decode cX4_takeBack 6 = .ok (.iload_n 2, 1) := by decide +kernel
theorem dX4_takeBack_7 : decode cX4_takeBack 7 = .ok (.invokevirtual 48, 3) := by decide +kernel
theorem dX4_takeBack_10 : decode cX4_takeBack 10 = .ok (.aload_n 0, 1) := by decide +kernel
theorem dX4_takeBack_11 : decode cX4_takeBack 11 = .ok (.iload_n 1, 1) := by decide +kernel
theorem dX4_takeBack_12 : decode cX4_takeBack 12 = .ok (.iload_n 2, 1) := by decide +kernel
theorem dX4_takeBack_13 : decode cX4_takeBack 13 = .ok (.invokevirtual 52, 3) := by decide +kernel
theorem dX4_takeBack_16 : decode cX4_takeBack 16 = .ok (.invokevirtual 59, 3) := by decide +kernel
theorem dX4_takeBack_19 : decode cX4_takeBack 19 = .ok (.return_, 1) := by decide +kernel
theorem dX4_changeX_0 : decode cX4_changeX 0 = .ok (.aload_n 0, 1) := by decide +kernel
theorem dX4_changeX_1 : decode cX4_changeX 1 = .ok (.getfield 18, 3) := by decide +kernel
theorem dX4_changeX_4 : decode cX4_changeX 4 = .ok (.iload_n 1, 1) := by decide +kernel
theorem dX4_changeX_5 : decode cX4_changeX 5 = .ok (.iaload, 1) := by decide +kernel
theorem dX4_changeX_6 : decode cX4_changeX 6 = .ok (.getstatic 62, 3) := by decide +kernel
theorem dX4_changeX_9 : decode cX4_changeX 9 = .ok (.iload_n 2, 1) := by decide +kernel
theorem dX4_changeX_10 : decode cX4_changeX 10 = .ok (.iaload, 1) := by decide +kernel
theorem dX4_changeX_11 : decode cX4_changeX 11 = .ok (.imul, 1) := by decide +kernel
theorem dX4_changeX_12 : decode cX4_changeX 12 = .ok (.aload_n 0, 1) := by decide +kernel
theorem dX4_changeX_13 : decode cX4_changeX 13 = .ok (.getfield 22, 3) := by decide +kernel
theorem dX4_changeX_16 : decode cX4_changeX 16 = .ok (.iload_n 1, 1) := by decide +kernel
theorem dX4_changeX_17 : decode cX4_changeX 17 = .ok (.iaload, 1) := by decide +kernel
theorem dX4_changeX_18 : decode cX4_changeX 18 = .ok (.isub, 1) := by decide +kernel
theorem dX4_changeX_19 : decode cX4_changeX 19 = .ok (.ireturn, 1) := by decide +kernel
theorem dX4_changeY_0 : decode cX4_changeY 0 = .ok (.aload_n 0, 1) := by decide +kernel
theorem dX4_changeY_1 : decode cX4_changeY 1 = .ok (.getfield 18, 3) := by decide +kernel
theorem dX4_changeY_4 : decode cX4_changeY 4 = .ok (.iload_n 1, 1) := by decide +kernel
theorem dX4_changeY_5 : decode cX4_changeY 5 = .ok (.iaload, 1) := by decide +kernel
theorem dX4_changeY_6 : decode cX4_changeY 6 = .ok (.getstatic 65, 3) := by decide +kernel
theorem dX4_changeY_9 : decode cX4_changeY 9 = .ok (.iload_n 2, 1) := by decide +kernel
theorem dX4_changeY_10 : decode cX4_changeY 10 = .ok (.iaload, 1) := by decide +kernel
theorem dX4_changeY_11 : decode cX4_changeY 11 = .ok (.imul, 1) := by decide +kernel
theorem dX4_changeY_12 : decode cX4_changeY 12 = .ok (.aload_n 0, 1) := by decide +kernel
theorem dX4_changeY_13 : decode cX4_changeY 13 = .ok (.getfield 25, 3) := by decide +kernel
theorem dX4_changeY_16 : decode cX4_changeY 16 = .ok (.iload_n 1, 1) := by decide +kernel
theorem dX4_changeY_17 : decode cX4_changeY 17 = .ok (.iaload, 1) := by decide +kernel
theorem dX4_changeY_18 : decode cX4_changeY 18 = .ok (.isub, 1) := by decide +kernel
theorem dX4_changeY_19 : decode cX4_changeY 19 = .ok (.ireturn, 1) := by decide +kernel
theorem dX4_deviation_0 : decode cX4_deviation 0 = .ok (.aload_n 0, 1) := by decide +kernel
theorem dX4_deviation_1 : decode cX4_deviation 1 = .ok (.getfield 12, 3) := by decide +kernel
theorem dX4_deviation_4 : decode cX4_deviation 4 = .ok (.getfield 28, 3) := by decide +kernel
theorem dX4_deviation_7 : decode cX4_deviation 7 = .ok (.invokestatic 68, 3) := by decide +kernel
theorem dX4_deviation_10 : decode cX4_deviation 10 = .ok (.aload_n 0, 1) := by decide +kernel
theorem dX4_deviation_11 : decode cX4_deviation 11 = .ok (.getfield 12, 3) := by decide +kernel
theorem dX4_deviation_14 : decode cX4_deviation 14 = .ok (.getfield 32, 3) := by decide +kernel
theorem dX4_deviation_17 : decode cX4_deviation 17 = .ok (.invokestatic 68, 3) := by decide +kernel
theorem dX4_deviation_20 : decode cX4_deviation 20 = .ok (.iadd, 1) := by decide +kernel
theorem dX4_deviation_21 : decode cX4_deviation 21 = .ok (.ireturn, 1) := by decide +kernel
set_option maxRecDepth 20000 in
theorem ggX4_deviationIn_X4_tryOut : GoodIn wsX4_deviationIn wsX4_tryOut := goodIn_ca (goodIn_r _ [5, 6, 7, 8, 9, 4, 10, 11, 12, 13, 14, 15, 16, 17, 18, 19, 20, 21, 22, 23, 24, 25, 26, 45, 46, 47, 48, 49, 50, 51, 52, 53, 54] (by decide +kernel) (by decide +kernel)) (goodIn_sub (fun _ h => List.mem_cons_of_mem _ (List.mem_append_right _ h)) (by decide +kernel))
set_option maxRecDepth 20000 in
theorem gX4_deviationIn_X4_tryOut : GoodIn wsX4_deviationIn (wsV RX4 74 RX4 yX4_tryOut wsX4_tryOut) := goodIn_app (goodIn_of _ (by decide +kernel)) ggX4_deviationIn_X4_tryOut
set_option maxRecDepth 20000 in
theorem ggX4_deviationIn_X4_deviation : GoodIn wsX4_deviationIn wsX4_deviation := goodIn_r _ [30, 6, 31, 32, 33, 34, 35, 36, 45, 46, 47, 48, 49, 50, 51, 52, 53, 54] (by decide +kernel) (by decide +kernel)
set_option maxRecDepth 20000 in
theorem gX4_deviationIn_X4_deviation : GoodIn wsX4_deviationIn (wsV RX4 77 RX4 yX4_deviation wsX4_deviation) := goodIn_app (goodIn_of _ (by decide +kernel)) ggX4_deviationIn_X4_deviation
set_option maxRecDepth 20000 in
theorem ggX4_deviationIn_X4_takeBack : GoodIn wsX4_deviationIn wsX4_takeBack := goodIn_ca (goodIn_r _ [40, 6, 7, 8, 9, 4, 10, 11, 12, 13, 14, 15, 16, 17, 41, 42, 43, 21, 44, 25, 23, 26, 24, 45, 46, 47, 48, 49, 50, 51, 52, 53, 54] (by decide +kernel) (by decide +kernel)) (goodIn_sub (fun _ h => List.mem_cons_of_mem _ (List.mem_append_right _ h)) (by decide +kernel))
set_option maxRecDepth 20000 in
theorem gX4_deviationIn_X4_takeBack : GoodIn wsX4_deviationIn (wsV RX4 81 RX4 yX4_takeBack wsX4_takeBack) := goodIn_app (goodIn_of _ (by decide +kernel)) ggX4_deviationIn_X4_takeBack
theorem dX4_deviationIn_0 : decode cX4_deviationIn 0 = .ok (.aload_n 0, 1) := by decide +kernel
theorem dX4_deviationIn_1 : decode cX4_deviationIn 1 = .ok (.iconst 0, 1) := by decide +kernel
theorem dX4_deviationIn_2 : decode cX4_deviationIn 2 = .ok (.iload_n 1, 1) := by decide +kernel
theorem dX4_deviationIn_3 : decode cX4_deviationIn 3 = .ok (.invokevirtual 74, 3) := by decide +kernel
theorem dX4_deviationIn_6 : decode cX4_deviationIn 6 = .ok (.aload_n 0, 1) := by decide +kernel
theorem dX4_deviationIn_7 : decode cX4_deviationIn 7 = .ok (.invokevirtual 77, 3) := by decide +kernel
theorem dX4_deviationIn_10 : decode cX4_deviationIn 10 = .ok (.istore_n 2, 1) := by decide +kernel
theorem dX4_deviationIn_11 : decode cX4_deviationIn 11 = .ok (.aload_n 0, 1) := by decide +kernel
theorem dX4_deviationIn_12 : decode cX4_deviationIn 12 = .ok (.iconst 0, 1) := by decide +kernel
theorem dX4_deviationIn_13 : decode cX4_deviationIn 13 = .ok (.iload_n 1, 1) := by decide +kernel
theorem dX4_deviationIn_14 : decode cX4_deviationIn 14 = .ok (.invokevirtual 81, 3) := by decide +kernel
theorem dX4_deviationIn_17 : decode cX4_deviationIn 17 = .ok (.iload_n 2, 1) := by decide +kernel
theorem dX4_deviationIn_18 : decode cX4_deviationIn 18 = .ok (.ireturn, 1) := by decide +kernel
set_option maxRecDepth 20000 in
theorem ggX4_note_X4_deviation : GoodIn wsX4_note wsX4_deviation := goodIn_r _ [10, 11, 12, 13, 14, 4, 15, 16, 17, 18, 19, 20, 21, 22, 23, 24, 25, 26] (by decide +kernel) (by decide +kernel)
set_option maxRecDepth 20000 in
theorem gX4_note_X4_deviation : GoodIn wsX4_note (wsV RX4 77 RX4 yX4_deviation wsX4_deviation) := goodIn_app (goodIn_of _ (by decide +kernel)) ggX4_note_X4_deviation
theorem dX4_note_0 : decode cX4_note 0 = .ok (.aload_n 0, 1) := by decide +kernel
theorem dX4_note_1 : decode cX4_note 1 = .ok (.aload_n 0, 1) := by decide +kernel
theorem dX4_note_2 : decode cX4_note 2 = .ok (.getfield 45, 3) := by decide +kernel
theorem dX4_note_5 : decode cX4_note 5 = .ok (.aload_n 0, 1) := by decide +kernel
theorem dX4_note_6 : decode cX4_note 6 = .ok (.invokevirtual 77, 3) := by decide +kernel
theorem dX4_note_9 : decode cX4_note 9 = .ok (.invokestatic 84, 3) := by decide +kernel
theorem dX4_note_12 : decode cX4_note 12 = .ok (.putfield 45, 3) := by decide +kernel
theorem dX4_note_15 : decode cX4_note 15 = .ok (.return_, 1) := by decide +kernel
theorem dX4_atLeast_0 : decode cX4_atLeast 0 = .ok (.aload_n 0, 1) := by decide +kernel
theorem dX4_atLeast_1 : decode cX4_atLeast 1 = .ok (.getfield 12, 3) := by decide +kernel
theorem dX4_atLeast_4 : decode cX4_atLeast 4 = .ok (.getfield 28, 3) := by decide +kernel
theorem dX4_atLeast_7 : decode cX4_atLeast 7 = .ok (.aload_n 0, 1) := by decide +kernel
theorem dX4_atLeast_8 : decode cX4_atLeast 8 = .ok (.getfield 41, 3) := by decide +kernel
theorem dX4_atLeast_11 : decode cX4_atLeast 11 = .ok (.iload_n 1, 1) := by decide +kernel
theorem dX4_atLeast_12 : decode cX4_atLeast 12 = .ok (.isub, 1) := by decide +kernel
theorem dX4_atLeast_13 : decode cX4_atLeast 13 = .ok (.aload_n 0, 1) := by decide +kernel
theorem dX4_atLeast_14 : decode cX4_atLeast 14 = .ok (.getfield 12, 3) := by decide +kernel
theorem dX4_atLeast_17 : decode cX4_atLeast 17 = .ok (.getfield 35, 3) := by decide +kernel
theorem dX4_atLeast_20 : decode cX4_atLeast 20 = .ok (.imul, 1) := by decide +kernel
theorem dX4_atLeast_21 : decode cX4_atLeast 21 = .ok (.iadd, 1) := by decide +kernel
theorem dX4_atLeast_22 : decode cX4_atLeast 22 = .ok (.istore_n 2, 1) := by decide +kernel
theorem dX4_atLeast_23 : decode cX4_atLeast 23 = .ok (.aload_n 0, 1) := by decide +kernel
theorem dX4_atLeast_24 : decode cX4_atLeast 24 = .ok (.getfield 12, 3) := by decide +kernel
theorem dX4_atLeast_27 : decode cX4_atLeast 27 = .ok (.getfield 32, 3) := by decide +kernel
theorem dX4_atLeast_30 : decode cX4_atLeast 30 = .ok (.aload_n 0, 1) := by decide +kernel
theorem dX4_atLeast_31 : decode cX4_atLeast 31 = .ok (.getfield 41, 3) := by decide +kernel
theorem dX4_atLeast_34 : decode cX4_atLeast 34 = .ok (.iload_n 1, 1) := by decide +kernel
theorem dX4_atLeast_35 : decode cX4_atLeast 35 = .ok (.isub, 1) := by decide +kernel
theorem dX4_atLeast_36 : decode cX4_atLeast 36 = .ok (.aload_n 0, 1) := by decide +kernel
theorem dX4_atLeast_37 : decode cX4_atLeast 37 = .ok (.getfield 12, 3) := by decide +kernel
theorem dX4_atLeast_40 : decode cX4_atLeast 40 = .ok (.getfield 38, 3) := by decide +kernel
theorem dX4_atLeast_43 : decode cX4_atLeast 43 = .ok (.imul, 1) := by decide +kernel
theorem dX4_atLeast_44 : decode cX4_atLeast 44 = .ok (.iadd, 1) := by decide +kernel
theorem dX4_atLeast_45 : decode cX4_atLeast 45 = .ok (.istore_n 3, 1) := by decide +kernel
theorem dX4_atLeast_46 : decode cX4_atLeast 46 = .ok (.iconst 0, 1) := by decide +kernel
theorem dX4_atLeast_47 : decode cX4_atLeast 47 = .ok (.istore 4, 2) := by decide +kernel
theorem dX4_atLeast_49 : decode cX4_atLeast 49 = .ok (.iload_n 1, 1) := by decide +kernel
theorem dX4_atLeast_50 : decode cX4_atLeast 50 = .ok (.istore 5, 2) := by decide +kernel
theorem dX4_atLeast_52 : decode cX4_atLeast 52 = .ok (.iload 5, 2) := by decide +kernel
theorem dX4_atLeast_54 : decode cX4_atLeast 54 = .ok (.aload_n 0, 1) := by decide +kernel
theorem dX4_atLeast_55 : decode cX4_atLeast 55 = .ok (.getfield 41, 3) := by decide +kernel
theorem dX4_atLeast_58 : decode cX4_atLeast 58 = .ok (.if_icmp .ge 59, 3) := by decide +kernel
theorem dX4_atLeast_61 : decode cX4_atLeast 61 = .ok (.aload_n 0, 1) := by decide +kernel
theorem dX4_atLeast_62 : decode cX4_atLeast 62 = .ok (.getfield 41, 3) := by decide +kernel
theorem dX4_atLeast_65 : decode cX4_atLeast 65 = .ok (.iload 5, 2) := by decide +kernel
theorem dX4_atLeast_67 : decode cX4_atLeast 67 = .ok (.isub, 1) := by decide +kernel
theorem dX4_atLeast_68 : decode cX4_atLeast 68 = .ok (.istore 6, 2) := by decide +kernel
theorem dX4_atLeast_70 : decode cX4_atLeast 70 = .ok (.iload_n 2, 1) := by decide +kernel
theorem dX4_atLeast_71 : decode cX4_atLeast 71 = .ok (.iload 6, 2) := by decide +kernel
theorem dX4_atLeast_73 : decode cX4_atLeast 73 = .ok (.aload_n 0, 1) := by decide +kernel
theorem dX4_atLeast_74 : decode cX4_atLeast 74 = .ok (.getfield 22, 3) := by decide +kernel
theorem dX4_atLeast_77 : decode cX4_atLeast 77 = .ok (.iload 5, 2) := by decide +kernel
theorem dX4_atLeast_79 : decode cX4_atLeast 79 = .ok (.iaload, 1) := by decide +kernel
theorem dX4_atLeast_80 : decode cX4_atLeast 80 = .ok (.imul, 1) := by decide +kernel
theorem dX4_atLeast_81 : decode cX4_atLeast 81 = .ok (.isub, 1) := by decide +kernel
theorem dX4_atLeast_82 : decode cX4_atLeast 82 = .ok (.istore_n 2, 1) := by decide +kernel
theorem dX4_atLeast_83 : decode cX4_atLeast 83 = .ok (.iload_n 3, 1) := by decide +kernel
theorem dX4_atLeast_84 : decode cX4_atLeast 84 = .ok (.iload 6, 2) := by decide +kernel
theorem dX4_atLeast_86 : decode cX4_atLeast 86 = .ok (.aload_n 0, 1) := by decide +kernel
theorem dX4_atLeast_87 : decode cX4_atLeast 87 = .ok (.getfield 25, 3) := by decide +kernel
theorem dX4_atLeast_90 : decode cX4_atLeast 90 = .ok (.iload 5, 2) := by decide +kernel
theorem dX4_atLeast_92 : decode cX4_atLeast 92 = .ok (.iaload, 1) := by decide +kernel
theorem dX4_atLeast_93 : decode cX4_atLeast 93 = .ok (.imul, 1) := by decide +kernel
theorem dX4_atLeast_94 : decode cX4_atLeast 94 = .ok (.isub, 1) := by decide +kernel
theorem dX4_atLeast_95 : decode cX4_atLeast 95 = .ok (.istore_n 3, 1) := by decide +kernel
theorem dX4_atLeast_96 : decode cX4_atLeast 96 = .ok (.iload 4, 2) := by decide +kernel
theorem dX4_atLeast_98 : decode cX4_atLeast 98 = .ok (.iload 6, 2) := by decide +kernel
theorem dX4_atLeast_100 : decode cX4_atLeast 100 = .ok (.aload_n 0, 1) := by decide +kernel
theorem dX4_atLeast_101 : decode cX4_atLeast 101 = .ok (.getfield 18, 3) := by decide +kernel
theorem dX4_atLeast_104 : decode cX4_atLeast 104 = .ok (.iload 5, 2) := by decide +kernel
theorem dX4_atLeast_106 : decode cX4_atLeast 106 = .ok (.iaload, 1) := by decide +kernel
theorem dX4_atLeast_107 : decode cX4_atLeast 107 = .ok (.imul, 1) := by decide +kernel
theorem dX4_atLeast_108 : decode cX4_atLeast 108 = .ok (.iadd, 1) := by decide +kernel
theorem dX4_atLeast_109 : decode cX4_atLeast 109 = .ok (.istore 4, 2) := by decide +kernel
theorem dX4_atLeast_111 : decode cX4_atLeast 111 = .ok (.iinc 5 1, 3) := by decide +kernel
theorem dX4_atLeast_114 : decode cX4_atLeast 114 = .ok (.goto (-62), 3) := by decide +kernel
theorem dX4_atLeast_117 : decode cX4_atLeast 117 = .ok (.iconst 0, 1) := by decide +kernel
theorem dX4_atLeast_118 : decode cX4_atLeast 118 = .ok (.iload_n 2, 1) := by decide +kernel
theorem dX4_atLeast_119 : decode cX4_atLeast 119 = .ok (.invokestatic 68, 3) := by decide +kernel
theorem dX4_atLeast_122 : decode cX4_atLeast 122 = .ok (.iload 4, 2) := by decide +kernel
theorem dX4_atLeast_124 : decode cX4_atLeast 124 = .ok (.isub, 1) := by decide +kernel
theorem dX4_atLeast_125 : decode cX4_atLeast 125 = .ok (.invokestatic 87, 3) := by decide +kernel
theorem dX4_atLeast_128 : decode cX4_atLeast 128 = .ok (.iconst 0, 1) := by decide +kernel
theorem dX4_atLeast_129 : decode cX4_atLeast 129 = .ok (.iload_n 3, 1) := by decide +kernel
theorem dX4_atLeast_130 : decode cX4_atLeast 130 = .ok (.invokestatic 68, 3) := by decide +kernel
theorem dX4_atLeast_133 : decode cX4_atLeast 133 = .ok (.iload 4, 2) := by decide +kernel
theorem dX4_atLeast_135 : decode cX4_atLeast 135 = .ok (.isub, 1) := by decide +kernel
theorem dX4_atLeast_136 : decode cX4_atLeast 136 = .ok (.invokestatic 87, 3) := by decide +kernel
theorem dX4_atLeast_139 : decode cX4_atLeast 139 = .ok (.iadd, 1) := by decide +kernel
theorem dX4_atLeast_140 : decode cX4_atLeast 140 = .ok (.ireturn, 1) := by decide +kernel
theorem dX5_init_0 : decode cX5_init 0 = .ok (.aload_n 0, 1) := by decide +kernel
theorem dX5_init_1 : decode cX5_init 1 = .ok (.invokespecial 3, 3) := by decide +kernel
theorem dX5_init_4 : decode cX5_init 4 = .ok (.aload_n 0, 1) := by decide +kernel
theorem dX5_init_5 : decode cX5_init 5 = .ok (.bipush 40, 2) := by decide +kernel
theorem dX5_init_7 : decode cX5_init 7 = .ok (.newarray .char, 2) := by decide +kernel
theorem dX5_init_9 : decode cX5_init 9 = .ok (.putfield 9, 3) := by decide +kernel
theorem dX5_init_12 : decode cX5_init 12 = .ok (.return_, 1) := by decide +kernel
theorem dX5_clear_0 : decode cX5_clear 0 = .ok (.aload_n 0, 1) := by decide +kernel
theorem dX5_clear_1 : decode cX5_clear 1 = .ok (.iconst 0, 1) := by decide +kernel
theorem dX5_clear_2 : decode cX5_clear 2 = .ok (.putfield 15, 3) := by decide +kernel
theorem dX5_clear_5 : decode cX5_clear 5 = .ok (.return_, 1) := by decide +kernel
theorem dX5_put_0 : decode cX5_put 0 = .ok (.aload_n 0, 1) := by decide +kernel
theorem dX5_put_1 : decode cX5_put 1 = .ok (.getfield 15, 3) := by decide +kernel
theorem dX5_put_4 : decode cX5_put 4 = .ok (.aload_n 0, 1) := by decide +kernel
theorem dX5_put_5 : decode cX5_put 5 = .ok (.getfield 9, 3) := by decide +kernel
theorem dX5_put_8 : decode cX5_put 8 = .ok (.arraylength, 1) := by decide +kernel
theorem dX5_put_9 : decode cX5_put 9 = .ok (.if_icmp .ge 23, 3) := by decide +kernel
theorem dX5_put_12 : decode cX5_put 12 = .ok (.aload_n 0, 1) := by decide +kernel
theorem dX5_put_13 : decode cX5_put 13 = .ok (.getfield 9, 3) := by decide +kernel
theorem dX5_put_16 : decode cX5_put 16 = .ok (.aload_n 0, 1) := by decide +kernel
theorem dX5_put_17 : decode cX5_put 17 = .ok (.getfield 15, 3) := by decide +kernel
theorem dX5_put_20 : decode cX5_put 20 = .ok (.iload_n 1, 1) := by decide +kernel
theorem dX5_put_21 : decode cX5_put 21 = .ok (.castore, 1) := by decide +kernel
theorem dX5_put_22 : decode cX5_put 22 = .ok (.aload_n 0, 1) := by decide +kernel
theorem dX5_put_23 : decode cX5_put 23 = .ok (.dup, 1) := by decide +kernel
theorem dX5_put_24 : decode cX5_put 24 = .ok (.getfield 15, 3) := by decide +kernel
theorem dX5_put_27 : decode cX5_put 27 = .ok (.iconst 1, 1) := by decide +kernel
theorem dX5_put_28 : decode cX5_put 28 = .ok (.iadd, 1) := by decide +kernel
theorem dX5_put_29 : decode cX5_put 29 = .ok (.putfield 15, 3) := by decide +kernel
theorem dX5_put_32 : decode cX5_put 32 = .ok (.return_, 1) := by decide +kernel
set_option maxRecDepth 20000 in
theorem ggX5_putDigit_X5_put : GoodIn wsX5_putDigit wsX5_put := goodIn_ca (goodIn_r _ [5, 6, 7, 8, 9] (by decide +kernel) (by decide +kernel)) (goodIn_sub (fun _ h => List.mem_cons_of_mem _ (List.mem_append_right _ h)) (by decide +kernel))
set_option maxRecDepth 20000 in
theorem gX5_putDigit_X5_put : GoodIn wsX5_putDigit (wsV RX5 19 RX5 yX5_put wsX5_put) := goodIn_app (goodIn_of _ (by decide +kernel)) ggX5_putDigit_X5_put
theorem dX5_putDigit_0 : decode cX5_putDigit 0 = .ok (.aload_n 0, 1) := by decide +kernel
theorem dX5_putDigit_1 : decode cX5_putDigit 1 = .ok (.bipush 48, 2) := by decide +kernel
theorem dX5_putDigit_3 : decode cX5_putDigit 3 = .ok (.iload_n 1, 1) := by decide +kernel
theorem dX5_putDigit_4 : decode cX5_putDigit 4 = .ok (.iadd, 1) := by decide +kernel
theorem dX5_putDigit_5 : decode cX5_putDigit 5 = .ok (.i2c, 1) := by decide +kernel
theorem dX5_putDigit_6 : decode cX5_putDigit 6 = .ok (.invokevirtual 19, 3) := by decide +kernel
theorem dX5_putDigit_9 : decode cX5_putDigit 9 = .ok (.return_, 1) := by decide +kernel
set_option maxRecDepth 20000 in
theorem ggX6_init_X0_init : GoodIn wsX6_init wsX0_init := goodIn_r _ [14, 15, 2, 3] (by decide +kernel) (by decide +kernel)
set_option maxRecDepth 20000 in
theorem gX6_init_X0_init_n26 : GoodIn wsX6_init (wsX0_init) := ggX6_init_X0_init
theorem dX6_init_0 : decode cX6_init 0 = .ok (.aload_n 0, 1) := by decide +kernel
theorem dX6_init_1 : decode cX6_init 1 = .ok (.invokespecial 3, 3) := by decide +kernel
theorem dX6_init_4 : decode cX6_init 4 = .ok (.aload_n 0, 1) := by decide +kernel
theorem dX6_init_5 : decode cX6_init 5 = .ok (.sipush 200, 3) := by decide +kernel
theorem dX6_init_8 : decode cX6_init 8 = .ok (.newarray .int, 2) := by decide +kernel
theorem dX6_init_10 : decode cX6_init 10 = .ok (.putfield 9, 3) := by decide +kernel
theorem dX6_init_13 : decode cX6_init 13 = .ok (.aload_n 0, 1) := by decide +kernel
theorem dX6_init_14 : decode cX6_init 14 = .ok (.sipush 200, 3) := by decide +kernel
theorem dX6_init_17 : decode cX6_init 17 = .ok (.newarray .int, 2) := by decide +kernel
theorem dX6_init_19 : decode cX6_init 19 = .ok (.putfield 15, 3) := by decide +kernel
theorem dX6_init_22 : decode cX6_init 22 = .ok (.aload_n 0, 1) := by decide +kernel
theorem dX6_init_23 : decode cX6_init 23 = .ok (.sipush 200, 3) := by decide +kernel
theorem dX6_init_26 : decode cX6_init 26 = .ok (.newarray .int, 2) := by decide +kernel
theorem dX6_init_28 : decode cX6_init 28 = .ok (.putfield 18, 3) := by decide +kernel
theorem dX6_init_31 : decode cX6_init 31 = .ok (.aload_n 0, 1) := by decide +kernel
theorem dX6_init_32 : decode cX6_init 32 = .ok (.sipush 200, 3) := by decide +kernel
theorem dX6_init_35 : decode cX6_init 35 = .ok (.newarray .int, 2) := by decide +kernel
theorem dX6_init_37 : decode cX6_init 37 = .ok (.putfield 21, 3) := by decide +kernel
theorem dX6_init_40 : decode cX6_init 40 = .ok (.aload_n 0, 1) := by decide +kernel
theorem dX6_init_41 : decode cX6_init 41 = .ok (.new 24, 3) := by decide +kernel
theorem dX6_init_44 : decode cX6_init 44 = .ok (.dup, 1) := by decide +kernel
theorem dX6_init_45 : decode cX6_init 45 = .ok (.invokespecial 26, 3) := by decide +kernel
theorem dX6_init_48 : decode cX6_init 48 = .ok (.putfield 27, 3) := by decide +kernel
theorem dX6_init_51 : decode cX6_init 51 = .ok (.return_, 1) := by decide +kernel
theorem dX6_lastPosition_0 : decode cX6_lastPosition 0 = .ok (.aload_n 0, 1) := by decide +kernel
theorem dX6_lastPosition_1 : decode cX6_lastPosition 1 = .ok (.getfield 31, 3) := by decide +kernel
theorem dX6_lastPosition_4 : decode cX6_lastPosition 4 = .ok (.ifCond .ne 7, 3) := by decide +kernel
theorem dX6_lastPosition_7 : decode cX6_lastPosition 7 = .ok (.iconst (-1), 1) := by decide +kernel
theorem dX6_lastPosition_8 : decode cX6_lastPosition 8 = .ok (.goto 14, 3) := by decide +kernel
theorem dX6_lastPosition_11 : decode cX6_lastPosition 11 = .ok (.aload_n 0, 1) := by decide +kernel
theorem dX6_lastPosition_12 : decode cX6_lastPosition 12 = .ok (.getfield 9, 3) := by decide +kernel
theorem dX6_lastPosition_15 : decode cX6_lastPosition 15 = .ok (.aload_n 0, 1) := by decide +kernel
theorem dX6_lastPosition_16 : decode cX6_lastPosition 16 = .ok (.getfield 31, 3) := by decide +kernel
theorem dX6_lastPosition_19 : decode cX6_lastPosition 19 = .ok (.iconst 1, 1) := by decide +kernel
theorem dX6_lastPosition_20 : decode cX6_lastPosition 20 = .ok (.isub, 1) := by decide +kernel
theorem dX6_lastPosition_21 : decode cX6_lastPosition 21 = .ok (.iaload, 1) := by decide +kernel
theorem dX6_lastPosition_22 : decode cX6_lastPosition 22 = .ok (.ireturn, 1) := by decide +kernel
set_option maxRecDepth 20000 in
theorem ggX6_append_X0_addRing : GoodIn wsX6_append wsX0_addRing := goodIn_ca (goodIn_r _ [13, 14, 15, 16, 12, 17, 18, 19, 20, 21, 28, 29, 30, 31] (by decide +kernel) (by decide +kernel)) (goodIn_sub (fun _ h => List.mem_cons_of_mem _ (List.mem_append_right _ h)) (by decide +kernel))
set_option maxRecDepth 20000 in
theorem gX6_append_X0_addRing : GoodIn wsX6_append (wsV RX6 35 RX0 yX0_addRing wsX0_addRing) := goodIn_app (goodIn_of _ (by decide +kernel)) ggX6_append_X0_addRing
theorem dX6_append_0 : decode cX6_append 0 = .ok (.aload_n 0, 1) := by decide +kernel
theorem dX6_append_1 : decode cX6_append 1 = .ok (.getfield 31, 3) := by decide +kernel
theorem dX6_append_4 : decode cX6_append 4 = .ok (.sipush 200, 3) := by decide +kernel
theorem dX6_append_7 : decode cX6_append 7 = .ok (.if_icmp .ge 74, 3) := by decide +kernel
theorem dX6_append_10 : decode cX6_append 10 = .ok (.aload_n 0, 1) := by decide +kernel
theorem dX6_append_11 : decode cX6_append 11 = .ok (.getfield 27, 3) := by decide +kernel
theorem dX6_append_14 : decode cX6_append 14 = .ok (.iload_n 1, 1) := by decide +kernel
theorem dX6_append_15 : decode cX6_append 15 = .ok (.iload_n 2, 1) := by decide +kernel
theorem dX6_append_16 : decode cX6_append 16 = .ok (.invokevirtual 35, 3) := by decide +kernel
theorem dX6_append_19 : decode cX6_append 19 = .ok (.aload_n 0, 1) := by decide +kernel
theorem dX6_append_20 : decode cX6_append 20 = .ok (.getfield 9, 3) := by decide +kernel
theorem dX6_append_23 : decode cX6_append 23 = .ok (.aload_n 0, 1) := by decide +kernel
theorem dX6_append_24 : decode cX6_append 24 = .ok (.getfield 31, 3) := by decide +kernel
theorem dX6_append_27 : decode cX6_append 27 = .ok (.iload_n 1, 1) := by decide +kernel
theorem dX6_append_28 : decode cX6_append 28 = .ok (.iastore, 1) := by decide +kernel
theorem dX6_append_29 : decode cX6_append 29 = .ok (.aload_n 0, 1) := by decide +kernel
theorem dX6_append_30 : decode cX6_append 30 = .ok (.getfield 15, 3) := by decide +kernel
theorem dX6_append_33 : decode cX6_append 33 = .ok (.aload_n 0, 1) := by decide +kernel
theorem dX6_append_34 : decode cX6_append 34 = .ok (.getfield 31, 3) := by decide +kernel
theorem dX6_append_37 : decode cX6_append 37 = .ok (.iload_n 2, 1) := by decide +kernel
theorem dX6_append_38 : decode cX6_append 38 = .ok (.iastore, 1) := by decide +kernel
theorem dX6_append_39 : decode cX6_append 39 = .ok (.aload_n 0, 1) := by decide +kernel
theorem dX6_append_40 : decode cX6_append 40 = .ok (.getfield 18, 3) := by decide +kernel
theorem dX6_append_43 : decode cX6_append 43 = .ok (.aload_n 0, 1) := by decide +kernel
theorem dX6_append_44 : decode cX6_append 44 = .ok (.getfield 31, 3) := by decide +kernel
theorem dX6_append_47 : decode cX6_append 47 = .ok (.aload_n 0, 1) := by decide +kernel
theorem dX6_append_48 : decode cX6_append 48 = .ok (.getfield 27, 3) := by decide +kernel
theorem dX6_append_51 : decode cX6_append 51 = .ok (.getfield 39, 3) := by decide +kernel
theorem dX6_append_54 : decode cX6_append 54 = .ok (.iastore, 1) := by decide +kernel
theorem dX6_append_55 : decode cX6_append 55 = .ok (.aload_n 0, 1) := by decide +kernel
theorem dX6_append_56 : decode cX6_append 56 = .ok (.getfield 21, 3) := by decide +kernel
theorem dX6_append_59 : decode cX6_append 59 = .ok (.aload_n 0, 1) := by decide +kernel
theorem dX6_append_60 : decode cX6_append 60 = .ok (.getfield 31, 3) := by decide +kernel
theorem dX6_append_63 : decode cX6_append 63 = .ok (.aload_n 0, 1) := by decide +kernel
theorem dX6_append_64 : decode cX6_append 64 = .ok (.getfield 27, 3) := by decide +kernel
theorem dX6_append_67 : decode cX6_append 67 = .ok (.getfield 42, 3) := by decide +kernel
theorem dX6_append_70 : decode cX6_append 70 = .ok (.iastore, 1) := by decide +kernel
theorem dX6_append_71 : decode cX6_append 71 = .ok (.aload_n 0, 1) := by decide +kernel
theorem dX6_append_72 : decode cX6_append 72 = .ok (.dup, 1) := by decide +kernel
theorem dX6_append_73 : decode cX6_append 73 = .ok (.getfield 31, 3) := by decide +kernel
theorem dX6_append_76 : decode cX6_append 76 = .ok (.iconst 1, 1) := by decide +kernel
theorem dX6_append_77 : decode cX6_append 77 = .ok (.iadd, 1) := by decide +kernel
theorem dX6_append_78 : decode cX6_append 78 = .ok (.putfield 31, 3) := by decide +kernel
theorem dX6_append_81 : decode cX6_append 81 = .ok (.return_, 1) := by decide +kernel
theorem dX7_init_0 : decode cX7_init 0 = .ok (.aload_n 0, 1) := by decide +kernel
theorem dX7_init_1 : decode cX7_init 1 = .ok (.invokespecial 3, 3) := by decide +kernel
theorem dX7_init_4 : decode cX7_init 4 = .ok (.aload_n 0, 1) := by decide +kernel
theorem dX7_init_5 : decode cX7_init 5 = .ok (.iconst 3, 1) := by decide +kernel
theorem dX7_init_6 : decode cX7_init 6 = .ok (.newarray .int, 2) := by decide +kernel
theorem dX7_init_8 : decode cX7_init 8 = .ok (.putfield 9, 3) := by decide +kernel
theorem dX7_init_11 : decode cX7_init 11 = .ok (.aload_n 0, 1) := by decide +kernel
theorem dX7_init_12 : decode cX7_init 12 = .ok (.bipush 36, 2) := by decide +kernel
theorem dX7_init_14 : decode cX7_init 14 = .ok (.newarray .int, 2) := by decide +kernel
theorem dX7_init_16 : decode cX7_init 16 = .ok (.putfield 15, 3) := by decide +kernel
theorem dX7_init_19 : decode cX7_init 19 = .ok (.aload_n 0, 1) := by decide +kernel
theorem dX7_init_20 : decode cX7_init 20 = .ok (.bipush 36, 2) := by decide +kernel
theorem dX7_init_22 : decode cX7_init 22 = .ok (.newarray .int, 2) := by decide +kernel
theorem dX7_init_24 : decode cX7_init 24 = .ok (.putfield 18, 3) := by decide +kernel
theorem dX7_init_27 : decode cX7_init 27 = .ok (.return_, 1) := by decide +kernel
theorem dX7_isFull_0 : decode cX7_isFull 0 = .ok (.aload_n 0, 1) := by decide +kernel
theorem dX7_isFull_1 : decode cX7_isFull 1 = .ok (.getfield 9, 3) := by decide +kernel
theorem dX7_isFull_4 : decode cX7_isFull 4 = .ok (.iload_n 1, 1) := by decide +kernel
theorem dX7_isFull_5 : decode cX7_isFull 5 = .ok (.iaload, 1) := by decide +kernel
theorem dX7_isFull_6 : decode cX7_isFull 6 = .ok (.bipush 12, 2) := by decide +kernel
theorem dX7_isFull_8 : decode cX7_isFull 8 = .ok (.if_icmp .lt 7, 3) := by decide +kernel
theorem dX7_isFull_11 : decode cX7_isFull 11 = .ok (.iconst 1, 1) := by decide +kernel
theorem dX7_isFull_12 : decode cX7_isFull 12 = .ok (.goto 4, 3) := by decide +kernel
theorem dX7_isFull_15 : decode cX7_isFull 15 = .ok (.iconst 0, 1) := by decide +kernel
theorem dX7_isFull_16 : decode cX7_isFull 16 = .ok (.ireturn, 1) := by decide +kernel
theorem dX7_put_0 : decode cX7_put 0 = .ok (.iload_n 1, 1) := by decide +kernel
theorem dX7_put_1 : decode cX7_put 1 = .ok (.bipush 12, 2) := by decide +kernel
theorem dX7_put_3 : decode cX7_put 3 = .ok (.imul, 1) := by decide +kernel
theorem dX7_put_4 : decode cX7_put 4 = .ok (.aload_n 0, 1) := by decide +kernel
theorem dX7_put_5 : decode cX7_put 5 = .ok (.getfield 9, 3) := by decide +kernel
theorem dX7_put_8 : decode cX7_put 8 = .ok (.iload_n 1, 1) := by decide +kernel
theorem dX7_put_9 : decode cX7_put 9 = .ok (.iaload, 1) := by decide +kernel
theorem dX7_put_10 : decode cX7_put 10 = .ok (.iadd, 1) := by decide +kernel
theorem dX7_put_11 : decode cX7_put 11 = .ok (.istore 4, 2) := by decide +kernel
theorem dX7_put_13 : decode cX7_put 13 = .ok (.aload_n 0, 1) := by decide +kernel
theorem dX7_put_14 : decode cX7_put 14 = .ok (.getfield 15, 3) := by decide +kernel
theorem dX7_put_17 : decode cX7_put 17 = .ok (.iload 4, 2) := by decide +kernel
theorem dX7_put_19 : decode cX7_put 19 = .ok (.iload_n 2, 1) := by decide +kernel
theorem dX7_put_20 : decode cX7_put 20 = .ok (.iastore, 1) := by decide +kernel
theorem dX7_put_21 : decode cX7_put 21 = .ok (.aload_n 0, 1) := by decide +kernel
theorem dX7_put_22 : decode cX7_put 22 = .ok (.getfield 18, 3) := by decide +kernel
theorem dX7_put_25 : decode cX7_put 25 = .ok (.iload 4, 2) := by decide +kernel
theorem dX7_put_27 : decode cX7_put 27 = .ok (.iload_n 3, 1) := by decide +kernel
theorem dX7_put_28 : decode cX7_put 28 = .ok (.iastore, 1) := by decide +kernel
theorem dX7_put_29 : decode cX7_put 29 = .ok (.aload_n 0, 1) := by decide +kernel
theorem dX7_put_30 : decode cX7_put 30 = .ok (.getfield 9, 3) := by decide +kernel
theorem dX7_put_33 : decode cX7_put 33 = .ok (.iload_n 1, 1) := by decide +kernel
theorem dX7_put_34 : decode cX7_put 34 = .ok (.dup2, 1) := by decide +kernel
theorem dX7_put_35 : decode cX7_put 35 = .ok (.iaload, 1) := by decide +kernel
theorem dX7_put_36 : decode cX7_put 36 = .ok (.iconst 1, 1) := by decide +kernel
theorem dX7_put_37 : decode cX7_put 37 = .ok (.iadd, 1) := by decide +kernel
theorem dX7_put_38 : decode cX7_put 38 = .ok (.iastore, 1) := by decide +kernel
theorem dX7_put_39 : decode cX7_put 39 = .ok (.return_, 1) := by decide +kernel
theorem dX7_taperIn_0 : decode cX7_taperIn 0 = .ok (.aload_n 0, 1) := by decide +kernel
theorem dX7_taperIn_1 : decode cX7_taperIn 1 = .ok (.getfield 15, 3) := by decide +kernel
theorem dX7_taperIn_4 : decode cX7_taperIn 4 = .ok (.iload_n 1, 1) := by decide +kernel
theorem dX7_taperIn_5 : decode cX7_taperIn 5 = .ok (.bipush 12, 2) := by decide +kernel
theorem dX7_taperIn_7 : decode cX7_taperIn 7 = .ok (.imul, 1) := by decide +kernel
theorem dX7_taperIn_8 : decode cX7_taperIn 8 = .ok (.iload_n 2, 1) := by decide +kernel
theorem dX7_taperIn_9 : decode cX7_taperIn 9 = .ok (.iadd, 1) := by decide +kernel
theorem dX7_taperIn_10 : decode cX7_taperIn 10 = .ok (.iaload, 1) := by decide +kernel
theorem dX7_taperIn_11 : decode cX7_taperIn 11 = .ok (.ireturn, 1) := by decide +kernel
set_option maxRecDepth 20000 in
theorem ggX7_topTaper_X7_taperIn : GoodIn wsX7_topTaper wsX7_taperIn := goodIn_ca (goodIn_r _ [6, 7, 8, 9, 10] (by decide +kernel) (by decide +kernel)) (goodIn_sub (fun _ h => List.mem_cons_of_mem _ (List.mem_append_right _ h)) (by decide +kernel))
set_option maxRecDepth 20000 in
theorem gX7_topTaper_X7_taperIn : GoodIn wsX7_topTaper (wsV RX7 21 RX7 yX7_taperIn wsX7_taperIn) := goodIn_app (goodIn_of _ (by decide +kernel)) ggX7_topTaper_X7_taperIn
theorem dX7_topTaper_0 : decode cX7_topTaper 0 = .ok (.aload_n 0, 1) := by decide +kernel
theorem dX7_topTaper_1 : decode cX7_topTaper 1 = .ok (.iload_n 1, 1) := by decide +kernel
theorem dX7_topTaper_2 : decode cX7_topTaper 2 = .ok (.aload_n 0, 1) := by decide +kernel
theorem dX7_topTaper_3 : decode cX7_topTaper 3 = .ok (.getfield 9, 3) := by decide +kernel
theorem dX7_topTaper_6 : decode cX7_topTaper 6 = .ok (.iload_n 1, 1) := by decide +kernel
theorem dX7_topTaper_7 : decode cX7_topTaper 7 = .ok (.iaload, 1) := by decide +kernel
theorem dX7_topTaper_8 : decode cX7_topTaper 8 = .ok (.iconst 1, 1) := by decide +kernel
theorem dX7_topTaper_9 : decode cX7_topTaper 9 = .ok (.isub, 1) := by decide +kernel
theorem dX7_topTaper_10 : decode cX7_topTaper 10 = .ok (.invokevirtual 21, 3) := by decide +kernel
theorem dX7_topTaper_13 : decode cX7_topTaper 13 = .ok (.ireturn, 1) := by decide +kernel
theorem dX7_takeTop_0 : decode cX7_takeTop 0 = .ok (.aload_n 0, 1) := by decide +kernel
theorem dX7_takeTop_1 : decode cX7_takeTop 1 = .ok (.getfield 9, 3) := by decide +kernel
theorem dX7_takeTop_4 : decode cX7_takeTop 4 = .ok (.iload_n 1, 1) := by decide +kernel
theorem dX7_takeTop_5 : decode cX7_takeTop 5 = .ok (.dup2, 1) := by decide +kernel
theorem dX7_takeTop_6 : decode cX7_takeTop 6 = .ok (.iaload, 1) := by decide +kernel
theorem dX7_takeTop_7 : decode cX7_takeTop 7 = .ok (.iconst 1, 1) := by decide +kernel
theorem dX7_takeTop_8 : decode cX7_takeTop 8 = .ok (.isub, 1) := by decide +kernel
theorem dX7_takeTop_9 : decode cX7_takeTop 9 = .ok (.iastore, 1) := by decide +kernel
theorem dX7_takeTop_10 : decode cX7_takeTop 10 = .ok (.return_, 1) := by decide +kernel
set_option maxRecDepth 20000 in
theorem ggX7_move_X7_takeTop : GoodIn wsX7_move wsX7_takeTop := goodIn_ca (goodIn_r _ [8, 1, 13, 14, 15] (by decide +kernel) (by decide +kernel)) (goodIn_sub (fun _ h => List.mem_cons_of_mem _ (List.mem_append_right _ h)) (by decide +kernel))
set_option maxRecDepth 20000 in
theorem gX7_move_X7_takeTop : GoodIn wsX7_move (wsV RX7 25 RX7 yX7_takeTop wsX7_takeTop) := goodIn_app (goodIn_of _ (by decide +kernel)) ggX7_move_X7_takeTop
set_option maxRecDepth 20000 in
theorem ggX7_move_X7_put : GoodIn wsX7_move wsX7_put := goodIn_ca (goodIn_r _ [12, 1, 2, 3, 13, 14, 15] (by decide +kernel) (by decide +kernel)) (goodIn_sub (fun _ h => List.mem_cons_of_mem _ (List.mem_append_right _ h)) (by decide +kernel))
set_option maxRecDepth 20000 in
theorem gX7_move_X7_put : GoodIn wsX7_move (wsV RX7 29 RX7 yX7_put wsX7_put) := goodIn_app (goodIn_of _ (by decide +kernel)) ggX7_move_X7_put
theorem dX7_move_0 : decode cX7_move 0 = .ok (.iload_n 1, 1) := by decide +kernel
theorem dX7_move_1 : decode cX7_move 1 = .ok (.bipush 12, 2) := by decide +kernel
theorem dX7_move_3 : decode cX7_move 3 = .ok (.imul, 1) := by decide +kernel
theorem dX7_move_4 : decode cX7_move 4 = .ok (.aload_n 0, 1) := by decide +kernel
theorem dX7_move_5 : decode cX7_move 5 = .ok (.getfield 9, 3) := by decide +kernel
theorem dX7_move_8 : decode cX7_move 8 = .ok (.iload_n 1, 1) := by decide +kernel
theorem dX7_move_9 : decode cX7_move 9 = .ok (.iaload, 1) := by decide +kernel
theorem dX7_move_10 : decode cX7_move 10 = .ok (.iadd, 1) := by decide +kernel
theorem dX7_move_11 : decode cX7_move 11 = .ok (.iconst 1, 1) := by decide +kernel
theorem dX7_move_12 : decode cX7_move 12 = .ok (.isub, 1) := by decide +kernel
theorem dX7_move_13 : decode cX7_move 13 = .ok (.istore_n 3, 1) := by decide +kernel
theorem dX7_move_14 : decode cX7_move 14 = .ok (.aload_n 0, 1) := by decide +kernel
theorem dX7_move_15 : decode cX7_move 15 = .ok (.iload_n 1, 1) := by decide +kernel
theorem dX7_move_16 : decode cX7_move 16 = .ok (.invokevirtual 25, 3) := by decide +kernel
theorem dX7_move_19 : decode cX7_move 19 = .ok (.aload_n 0, 1) := by decide +kernel
theorem dX7_move_20 : decode cX7_move 20 = .ok (.iload_n 2, 1) := by decide +kernel
theorem dX7_move_21 : decode cX7_move 21 = .ok (.aload_n 0, 1) := by decide +kernel
theorem dX7_move_22 : decode cX7_move 22 = .ok (.getfield 15, 3) := by decide +kernel
theorem dX7_move_25 : decode cX7_move 25 = .ok (.iload_n 3, 1) := by decide +kernel
theorem dX7_move_26 : decode cX7_move 26 = .ok (.iaload, 1) := by decide +kernel
theorem dX7_move_27 : decode cX7_move 27 = .ok (.aload_n 0, 1) := by decide +kernel
theorem dX7_move_28 : decode cX7_move 28 = .ok (.getfield 18, 3) := by decide +kernel
theorem dX7_move_31 : decode cX7_move 31 = .ok (.iload_n 3, 1) := by decide +kernel
theorem dX7_move_32 : decode cX7_move 32 = .ok (.iaload, 1) := by decide +kernel
theorem dX7_move_33 : decode cX7_move 33 = .ok (.invokevirtual 29, 3) := by decide +kernel
theorem dX7_move_36 : decode cX7_move 36 = .ok (.return_, 1) := by decide +kernel
theorem dX7_hoursLeft_0 : decode cX7_hoursLeft 0 = .ok (.iconst 0, 1) := by decide +kernel
theorem dX7_hoursLeft_1 : decode cX7_hoursLeft 1 = .ok (.aload_n 0, 1) := by decide +kernel
theorem dX7_hoursLeft_2 : decode cX7_hoursLeft 2 = .ok (.getfield 18, 3) := by decide +kernel
theorem dX7_hoursLeft_5 : decode cX7_hoursLeft 5 = .ok (.iload_n 1, 1) := by decide +kernel
theorem dX7_hoursLeft_6 : decode cX7_hoursLeft 6 = .ok (.bipush 12, 2) := by decide +kernel
theorem dX7_hoursLeft_8 : decode cX7_hoursLeft 8 = .ok (.imul, 1) := by decide +kernel
theorem dX7_hoursLeft_9 : decode cX7_hoursLeft 9 = .ok (.iload_n 2, 1) := by decide +kernel
theorem dX7_hoursLeft_10 : decode cX7_hoursLeft 10 = .ok (.iadd, 1) := by decide +kernel
theorem dX7_hoursLeft_11 : decode cX7_hoursLeft 11 = .ok (.iaload, 1) := by decide +kernel
theorem dX7_hoursLeft_12 : decode cX7_hoursLeft 12 = .ok (.bipush 24, 2) := by decide +kernel
theorem dX7_hoursLeft_14 : decode cX7_hoursLeft 14 = .ok (.iadd, 1) := by decide +kernel
theorem dX7_hoursLeft_15 : decode cX7_hoursLeft 15 = .ok (.iload_n 3, 1) := by decide +kernel
theorem dX7_hoursLeft_16 : decode cX7_hoursLeft 16 = .ok (.isub, 1) := by decide +kernel
theorem dX7_hoursLeft_17 : decode cX7_hoursLeft 17 = .ok (.invokestatic 33, 3) := by decide +kernel
theorem dX7_hoursLeft_20 : decode cX7_hoursLeft 20 = .ok (.ireturn, 1) := by decide +kernel
theorem dX7_countRings_0 : decode cX7_countRings 0 = .ok (.iconst 0, 1) := by decide +kernel
theorem dX7_countRings_1 : decode cX7_countRings 1 = .ok (.istore_n 1, 1) := by decide +kernel
theorem dX7_countRings_2 : decode cX7_countRings 2 = .ok (.iconst 0, 1) := by decide +kernel
theorem dX7_countRings_3 : decode cX7_countRings 3 = .ok (.istore_n 2, 1) := by decide +kernel
theorem dX7_countRings_4 : decode cX7_countRings 4 = .ok (.iload_n 2, 1) := by decide +kernel
theorem dX7_countRings_5 : decode cX7_countRings 5 = .ok (.iconst 3, 1) := by decide +kernel
theorem dX7_countRings_6 : decode cX7_countRings 6 = .ok (.if_icmp .ge 18, 3) := by decide +kernel
theorem dX7_countRings_9 : decode cX7_countRings 9 = .ok (.iload_n 1, 1) := by decide +kernel
theorem dX7_countRings_10 : decode cX7_countRings 10 = .ok (.aload_n 0, 1) := by decide +kernel
theorem dX7_countRings_11 : decode cX7_countRings 11 = .ok (.getfield 9, 3) := by decide +kernel
theorem dX7_countRings_14 : decode cX7_countRings 14 = .ok (.iload_n 2, 1) := by decide +kernel
theorem dX7_countRings_15 : decode cX7_countRings 15 = .ok (.iaload, 1) := by decide +kernel
theorem dX7_countRings_16 : decode cX7_countRings 16 = .ok (.iadd, 1) := by decide +kernel
theorem dX7_countRings_17 : decode cX7_countRings 17 = .ok (.istore_n 1, 1) := by decide +kernel
theorem dX7_countRings_18 : decode cX7_countRings 18 = .ok (.iinc 2 1, 3) := by decide +kernel
theorem dX7_countRings_21 : decode cX7_countRings 21 = .ok (.goto (-17), 3) := by decide +kernel
theorem dX7_countRings_24 : decode cX7_countRings 24 = .ok (.iload_n 1, 1) := by decide +kernel
theorem dX7_countRings_25 : decode cX7_countRings 25 = .ok (.ireturn, 1) := by decide +kernel
set_option maxRecDepth 20000 in
theorem ggX7_countCured_X7_hoursLeft : GoodIn wsX7_countCured wsX7_hoursLeft := goodIn_ca (goodIn_r _ [6, 7, 8, 9, 10, 11, 12, 13, 14] (by decide +kernel) (by decide +kernel)) (goodIn_sub (fun _ h => List.mem_cons_of_mem _ (List.mem_append_right _ h)) (by decide +kernel))
set_option maxRecDepth 20000 in
theorem gX7_countCured_X7_hoursLeft : GoodIn wsX7_countCured (wsV RX7 38 RX7 yX7_hoursLeft wsX7_hoursLeft) := goodIn_app (goodIn_of _ (by decide +kernel)) ggX7_countCured_X7_hoursLeft
theorem dX7_countCured_0 : decode cX7_countCured 0 = .ok (.iconst 0, 1) := by decide +kernel
theorem dX7_countCured_1 : decode cX7_countCured 1 = .ok (.istore_n 2, 1) := by decide +kernel
theorem dX7_countCured_2 : decode cX7_countCured 2 = .ok (.iconst 0, 1) := by decide +kernel
theorem dX7_countCured_3 : decode cX7_countCured 3 = .ok (.istore_n 3, 1) := by decide +kernel
theorem dX7_countCured_4 : decode cX7_countCured 4 = .ok (.iload_n 3, 1) := by decide +kernel
theorem dX7_countCured_5 : decode cX7_countCured 5 = .ok (.iconst 3, 1) := by decide +kernel
theorem dX7_countCured_6 : decode cX7_countCured 6 = .ok (.if_icmp .ge 43, 3) := by decide +kernel
theorem dX7_countCured_9 : decode cX7_countCured 9 = .ok (.iconst 0, 1) := by decide +kernel
theorem dX7_countCured_10 : decode cX7_countCured 10 = .ok (.istore 4, 2) := by decide +kernel
theorem dX7_countCured_12 : decode cX7_countCured 12 = .ok (.iload 4, 2) := by decide +kernel
theorem dX7_countCured_14 : decode cX7_countCured 14 = .ok (.aload_n 0, 1) := by decide +kernel
theorem dX7_countCured_15 : decode cX7_countCured 15 = .ok (.getfield 9, 3) := by decide +kernel
theorem dX7_countCured_18 : decode cX7_countCured 18 = .ok (.iload_n 3, 1) := by decide +kernel
theorem dX7_countCured_19 : decode cX7_countCured 19 = .ok (.iaload, 1) := by decide +kernel
theorem dX7_countCured_20 : decode cX7_countCured 20 = .ok (.if_icmp .ge 23, 3) := by decide +kernel
theorem dX7_countCured_23 : decode cX7_countCured 23 = .ok (.aload_n 0, 1) := by decide +kernel
theorem dX7_countCured_24 : decode cX7_countCured 24 = .ok (.iload_n 3, 1) := by decide +kernel
theorem dX7_countCured_25 : decode cX7_countCured 25 = .ok (.iload 4, 2) := by decide +kernel
theorem dX7_countCured_27 : decode cX7_countCured 27 = .ok (.iload_n 1, 1) := by decide +kernel
theorem dX7_countCured_28 : decode cX7_countCured 28 = .ok (.invokevirtual 38, 3) := by decide +kernel
theorem dX7_countCured_31 : decode cX7_countCured 31 = .ok (.ifCond .ne 6, 3) := by decide +kernel
theorem dX7_countCured_34 : decode cX7_countCured 34 = .ok (.iinc 2 1, 3) := by decide +kernel
theorem dX7_countCured_37 : decode cX7_countCured 37 = .ok (.iinc 4 1, 3) := by decide +kernel
theorem dX7_countCured_40 : decode cX7_countCured 40 = .ok (.goto (-28), 3) := by decide +kernel
theorem dX7_countCured_43 : decode cX7_countCured 43 = .ok (.iinc 3 1, 3) := by decide +kernel
theorem dX7_countCured_46 : decode cX7_countCured 46 = .ok (.goto (-42), 3) := by decide +kernel
theorem dX7_countCured_49 : decode cX7_countCured 49 = .ok (.iload_n 2, 1) := by decide +kernel
theorem dX7_countCured_50 : decode cX7_countCured 50 = .ok (.ireturn, 1) := by decide +kernel
end
section
theorem zz_test : (1:Nat) = 1 := rfl
end
