def bnd (F : Int → Int) (lo hi : Int) : Prop := ∀ i : Int, lo ≤ F i ∧ F i ≤ hi
theorem bnd_up {F : Int → Int} {lo hi k v : Int} (h : bnd F lo hi) (h1 : lo ≤ v) (h2 : v ≤ hi) : bnd (up F k v) lo hi := by
  intro i; unfold up; split
  · exact ⟨h1, h2⟩
  · exact h i
theorem toSide_r (p : Int) : -1 ≤ toSide p ∧ toSide p ≤ 1 := by unfold toSide; split <;> (try split) <;> omega
theorem upward_r (p : Int) : -1 ≤ upward p ∧ upward p ≤ 1 := by unfold upward; split <;> (try split) <;> omega
def mx (a b : Int) : Int := if a < b then b else a
def mn (a b : Int) : Int := if b < a then b else a
def aI (a : Int) : Int := if 0 ≤ a then a else 0 - a
theorem mx_r (a b : Int) {v : Int} (h : v = mx a b) : a ≤ v ∧ b ≤ v ∧ (v = a ∨ v = b) := by rw [h]; unfold mx; split <;> omega
theorem mn_r (a b : Int) {v : Int} (h : v = mn a b) : v ≤ a ∧ v ≤ b ∧ (v = a ∨ v = b) := by rw [h]; unfold mn; split <;> omega
theorem aI_r (a : Int) {v : Int} (h : v = aI a) : 0 ≤ v ∧ (v = a ∨ v = -a) := by rw [h]; unfold aI; split <;> omega
theorem nar_bI (P : Prop) [Decidable P] : narrow .boolean (.int (iI (bI P))) = .int (iI (bI P)) := by unfold bI; split <;> decide
theorem nar_b {P : Prop} [Decidable P] {v : Int} (h : v = bI P) : narrow .boolean (.int (iI v)) = .int (iI v) := by rw [h]; exact nar_bI P
theorem nar_c {v : Int} (h : 0 ≤ v ∧ v < 65536) : narrow .char (.int (iI v)) = .int (iI v) := by
  have h2 := vp_nar_c h.1 h.2
  unfold vp_nar at h2
  cases h3 : narrow .char (.int (iI v)) with
  | int y => rw [h3] at h2; exact congrArg Value.int h2
  | _ => simp [narrow] at h3
section XM
variable {p : Program} {l : Launch} {e : Env} {R : Room} {s : State} {m : MethodId} {args : Array Value} {below : List Frame} {meth : Method} {c : Code} {H : Heap} {locs : List Loc} {cells slots : Nat} {Q : State → Prop}
variable {cc : ByteArray} {pc : Nat} {ls : Array Slot} {rest : List Value}
theorem x_ldc (hx : p.tables.exec = Jvm.exec) (hb : c.code = cc) {own : String} {index : Nat} {v : Int} {w : Int32} (hown : s.vm.findClass own = some m.cls) (hconst : (Jvm.Cond.constant own index w).before args s = true) (hw : w = iI v) (d : decode cc pc = .ok (.ldc index, 2)) (k : W p l e R s m args below meth c H locs cells slots Q (F0 m (pc + 2) ls (.int (iI v) :: rest))) : W p l e R s m args below meth c H locs cells slots Q (F0 m pc ls rest) := lv_ldc hx hb hown hconst d (by rw [hw]; exact k)
theorem x_i2c (hx : p.tables.exec = Jvm.exec) (hb : c.code = cc) {v : Int} (h : 0 ≤ v ∧ v < 65536) (d : decode cc pc = .ok (.i2c, 1)) (k : W p l e R s m args below meth c H locs cells slots Q (F0 m (pc + 1) ls (.int (iI v) :: rest))) : W p l e R s m args below meth c H locs cells slots Q (F0 m pc ls (.int (iI v) :: rest)) := by
  refine lv_i2c hx hb d ?_ k
  obtain ⟨n, rfl⟩ := Int.eq_ofNat_of_zero_le h.1
  have hn : n < 65536 := by omega
  show ((Int32.ofInt (n : Int)).toUInt32 % 65536).toInt32 = Int32.ofInt (n : Int)
  apply Int32.toBitVec.inj
  apply BitVec.eq_of_toNat_eq
  simp
  omega
theorem x_max (hx : p.tables.exec = Jvm.exec) (hb : c.code = cc) (hml : c.maxLocals = ls.size) {own : String} {index : Nat} (hown : s.vm.findClass own = some m.cls) (hlink : (Cond.methodLink own index Lib.Math.max.name).before args s = true) (hstat : (Cond.static Lib.Math.max.name).before args s = true) (hini : (Cond.initialized "java/lang/Math").before args s = true) (hcode : (Cond.code Lib.Math.max.name Lib.Math.max.code 2 (some .int)).before args s = true)
    (hframes : 1 ≤ R.frames) (hlocals : (rest.map fun v => v.category).sum + 13 ≤ R.locals) (hc : cells ≤ R.cells) (hs : slots ≤ R.slots) {a b : Int} (ha : iR a) (hb2 : iR b) (hdg : decode cc pc = .ok (.invokestatic index, 3))
    (kk : ∀ v : Int, v = mx a b → W p l e R s m args below meth c H locs cells slots Q (F0 m (pc + 3) ls (.int (iI v) :: rest))) : W p l e R s m args below meth c H locs cells slots Q (F0 m pc ls (.int (iI b) :: .int (iI a) :: rest)) := by
  refine va_mmax hx hb hml hown hlink hstat hini hcode hframes hlocals hc hs hdg ?_
  have h := kk (mx a b) rfl
  unfold mx at h
  by_cases q : a < b
  · rw [if_pos ((iI_lt ha hb2).mpr q)]; rw [if_pos q] at h; exact h
  · rw [if_neg (fun z => q ((iI_lt ha hb2).mp z))]; rw [if_neg q] at h; exact h
theorem x_min (hx : p.tables.exec = Jvm.exec) (hb : c.code = cc) (hml : c.maxLocals = ls.size) {own : String} {index : Nat} (hown : s.vm.findClass own = some m.cls) (hlink : (Cond.methodLink own index Lib.Math.min.name).before args s = true) (hstat : (Cond.static Lib.Math.min.name).before args s = true) (hini : (Cond.initialized "java/lang/Math").before args s = true) (hcode : (Cond.code Lib.Math.min.name Lib.Math.min.code 2 (some .int)).before args s = true)
    (hframes : 1 ≤ R.frames) (hlocals : (rest.map fun v => v.category).sum + 13 ≤ R.locals) (hc : cells ≤ R.cells) (hs : slots ≤ R.slots) {a b : Int} (ha : iR a) (hb2 : iR b) (hdg : decode cc pc = .ok (.invokestatic index, 3))
    (kk : ∀ v : Int, v = mn a b → W p l e R s m args below meth c H locs cells slots Q (F0 m (pc + 3) ls (.int (iI v) :: rest))) : W p l e R s m args below meth c H locs cells slots Q (F0 m pc ls (.int (iI b) :: .int (iI a) :: rest)) := by
  refine va_mmin hx hb hml hown hlink hstat hini hcode hframes hlocals hc hs hdg ?_
  have h := kk (mn a b) rfl
  unfold mn at h
  by_cases q : b < a
  · rw [if_pos ((iI_lt hb2 ha).mpr q)]; rw [if_pos q] at h; exact h
  · rw [if_neg (fun z => q ((iI_lt hb2 ha).mp z))]; rw [if_neg q] at h; exact h
theorem x_abs (hx : p.tables.exec = Jvm.exec) (hb : c.code = cc) (hml : c.maxLocals = ls.size) {own : String} {index : Nat} (hown : s.vm.findClass own = some m.cls) (hlink : (Cond.methodLink own index Lib.Math.abs.name).before args s = true) (hstat : (Cond.static Lib.Math.abs.name).before args s = true) (hini : (Cond.initialized "java/lang/Math").before args s = true) (hcode : (Cond.code Lib.Math.abs.name Lib.Math.abs.code 1 (some .int)).before args s = true)
    (hframes : 1 ≤ R.frames) (hlocals : (rest.map fun v => v.category).sum + 13 ≤ R.locals) (hc : cells ≤ R.cells) (hs : slots ≤ R.slots) {a : Int} (ha : iR a) (hdg : decode cc pc = .ok (.invokestatic index, 3))
    (kk : ∀ v : Int, v = aI a → W p l e R s m args below meth c H locs cells slots Q (F0 m (pc + 3) ls (.int (iI v) :: rest))) : W p l e R s m args below meth c H locs cells slots Q (F0 m pc ls (.int (iI a) :: rest)) := by
  refine va_mabs hx hb hml hown hlink hstat hini hcode hframes hlocals hc hs hdg ?_
  have h := kk (aI a) rfl
  unfold aI at h
  by_cases q : 0 ≤ a
  · have q2 : (0 : Int32) ≤ iI a := (iI_le (a := 0) ⟨by omega, by omega⟩ ha).mpr q
    rw [if_pos q2]; rw [if_pos q] at h; exact h
  · have q2 : ¬ (0 : Int32) ≤ iI a := fun z => q ((iI_le (a := 0) ⟨by omega, by omega⟩ ha).mp z)
    rw [if_neg q2, show (0 : Int32) = iI 0 from rfl, iI_sub]; rw [if_neg q] at h; exact h
end XM
