/-! Floats and doubles: a quotient of whole numbers is a number; sums in two ways. -/
theorem zq_ratio (f : FP.Core.Fmt) (sg : Bool) (a b : Nat) (e : Int) : FP.Core.roundRatio f sg a b e ≠ .nan := by
  unfold FP.Core.roundRatio
  split
  · intro h; cases h
  · unfold FP.Core.roundAt FP.Core.settle
    split <;> (unfold FP.Core.bound; split <;> (intro h; cases h))
theorem zq_quot {f : FP.Core.Fmt} {i j : Int} {x y : FP.Core.Datum} (hx : FP.Core.Whole i x) (hy : FP.Core.Whole j y) (hj : j ≠ 0) : FP.Core.quotient f x y ≠ .nan := by
  cases x with
  | nan => exact hx.elim
  | inf => exact hx.elim
  | fin sg c q => cases y with
    | nan => exact hy.elim
    | inf => exact hy.elim
    | fin t d r =>
      have hd : d ≠ 0 := by
        rintro rfl
        have h9 : FP.Core.signed t (0 * 2 ^ r.toNat) = j * ((2 ^ (-r).toNat : Nat) : Int) := hy
        have h8 : FP.Core.signed t (0 * 2 ^ r.toNat) = 0 := by unfold FP.Core.signed; cases t <;> simp
        rw [h8] at h9
        rcases Int.mul_eq_zero.mp h9.symm with h | h
        · exact hj h
        · have h7 : 0 < 2 ^ (-r).toNat := Nat.pow_pos (by decide)
          omega
      show (if d = 0 then (if c = 0 then FP.Core.Datum.nan else FP.Core.Datum.inf (sg != t)) else FP.Core.roundRatio f (sg != t) c d (q - r)) ≠ .nan
      rw [if_neg hd]
      exact zq_ratio _ _ _ _ _
theorem zq_n32 {r : UInt32} (h : FP.Core.val32 r ≠ .nan) : vf_n32 r := by
  unfold vf_n32
  have h1 : ¬ (2139095040 < r.toNat % 2 ^ 31) := fun h9 => h ((FP.Core.fIsNaN_iff r).mp ((FP.Core.isNaN_bits32 r).mpr h9))
  rw [UInt32.le_iff_toNat_le, UInt32.toNat_and, show (0x7fffffff : UInt32).toNat = 2 ^ 31 - 1 by decide, Nat.and_two_pow_sub_one_eq_mod]
  exact Nat.le_of_not_lt h1
theorem zq_n64 {r : UInt64} (h : FP.Core.val64 r ≠ .nan) : vf_n64 r := by
  unfold vf_n64
  have h1 : ¬ (9218868437227405312 < r.toNat % 2 ^ 63) := fun h9 => h ((FP.Core.dIsNaN_iff r).mp ((FP.Core.isNaN_bits r).mpr h9))
  rw [UInt64.le_iff_toNat_le, UInt64.toNat_and, show (0x7fffffffffffffff : UInt64).toNat = 2 ^ 63 - 1 by decide, Nat.and_two_pow_sub_one_eq_mod]
  exact Nat.le_of_not_lt h1
theorem zf_val {a b : Int32} (ha : a.toInt.natAbs ≤ 2 ^ 24) (hb : b.toInt.natAbs ≤ 2 ^ 24) (h0 : b.toInt ≠ 0) : FP.Core.val32 (FP.fdiv (FP.i2f a) (FP.i2f b)) ≠ .nan := by
  show FP.Core.val32 (FP.Core.fdiv (FP.Core.i2f a) (FP.Core.i2f b)) ≠ .nan
  rw [FP.Core.val32_fdiv]
  exact zq_quot (FP.Core.i2f_int ha) (FP.Core.i2f_int hb) h0
theorem zd_val {a b : Int32} (h0 : b.toInt ≠ 0) : FP.Core.val64 (FP.ddiv (FP.i2d a) (FP.i2d b)) ≠ .nan := by
  show FP.Core.val64 (FP.Core.ddiv (FP.Core.i2d a) (FP.Core.i2d b)) ≠ .nan
  rw [FP.Core.val64_ddiv]
  exact zq_quot (FP.Core.i2d_int a) (FP.Core.i2d_int b) h0
theorem zf_div {a b : Int} (ha : 0 ≤ a ∧ a ≤ 36) (hb : 1 ≤ b ∧ b ≤ 36) : vf_n32 (FP.fdiv (FP.i2f (iI a)) (FP.i2f (iI b))) := by
  have e1 := iI_toInt (a := a) (by constructor <;> omega)
  have e2 := iI_toInt (a := b) (by constructor <;> omega)
  exact zq_n32 (zf_val (by rw [e1]; omega) (by rw [e2]; omega) (by rw [e2]; omega))
theorem zf_f2d {r : UInt32} (h : FP.Core.val32 r ≠ .nan) : vf_n64 (FP.f2d r) := by
  have h1 : FP.fIsNaN r = false := by
    cases h9 : FP.fIsNaN r with
    | false => rfl
    | true => exact absurd ((FP.Core.fIsNaN_iff r).mp h9) h
  refine zq_n64 fun h9 => ?_
  have h2 := (FP.Core.dIsNaN_iff (FP.f2d r)).mpr h9
  have h3 := FP.f2d_nan r
  rw [h1] at h3
  exact absurd (h3.symm.trans h2) (by decide)
theorem zd_div {a b : Int} (hb : 1 ≤ b ∧ b ≤ 200) : vf_n64 (FP.ddiv (FP.i2d (iI a)) (FP.i2d (iI b))) := by
  have e2 := iI_toInt (a := b) (by constructor <;> omega)
  exact zq_n64 (zd_val (by rw [e2]; omega))
/-- the two answers -/
def shF (c r : Int) : UInt32 := if r = 0 then FP.fconst0 else FP.fdiv (FP.i2f (iI c)) (FP.i2f (iI r))
def mnD (c r : Int) : UInt64 := if r = 0 then FP.dconst0 else FP.ddiv (FP.i2d (iI c)) (FP.i2d (iI r))
theorem shF_n {c r : Int} (hc : 0 ≤ c ∧ c ≤ 36) (hr : 0 ≤ r ∧ r ≤ 36) : FP.Core.val32 (shF c r) ≠ .nan := by
  unfold shF
  split
  · decide +kernel
  · have e1 := iI_toInt (a := c) (by constructor <;> omega)
    have e2 := iI_toInt (a := r) (by constructor <;> omega)
    exact zf_val (by rw [e1]; omega) (by rw [e2]; omega) (by rw [e2]; omega)
/-- sums -/
theorem sumI_ext {f h : Int → Int} {n : Int} (hn : 0 ≤ n) (e : ∀ k : Int, 0 ≤ k → k < n → f k = h k) : sumI f n = sumI h n := by
  obtain ⟨k, rfl⟩ := Int.eq_ofNat_of_zero_le hn
  induction k with
  | zero => rfl
  | succ k ih =>
    rw [show ((k + 1 : Nat) : Int) = (k : Int) + 1 by omega, sumI_step _ (by omega), sumI_step _ (by omega), ih (by omega) (fun j h1 h2 => e j h1 (by omega)), e _ (by omega) (by omega)]
theorem sumI_app (f : Int → Int) {a : Int} (ha : 0 ≤ a) (n : Nat) : sumI f (a + (n : Int)) = sumI f a + sumI (fun j => f (a + j)) (n : Int) := by
  induction n with
  | zero => rw [show a + ((0 : Nat) : Int) = a by omega, show ((0 : Nat) : Int) = 0 from rfl, sumI_0]; omega
  | succ k ih =>
    rw [show a + ((k + 1 : Nat) : Int) = (a + (k : Int)) + 1 by omega, sumI_step _ (by omega), ih, show ((k + 1 : Nat) : Int) = (k : Int) + 1 by omega, sumI_step _ (by omega)]
    omega
theorem sumI_zero (n : Nat) : sumI (fun _ => 0) (n : Int) = 0 := by
  induction n with
  | zero => rfl
  | succ k ih => rw [show ((k + 1 : Nat) : Int) = (k : Int) + 1 by omega, sumI_step _ (by omega), ih]; rfl
theorem sumI_ones (n : Nat) : sumI (fun _ => 1) (n : Int) = (n : Int) := by
  induction n with
  | zero => rfl
  | succ k ih => rw [show ((k + 1 : Nat) : Int) = (k : Int) + 1 by omega, sumI_step _ (by omega), ih]
theorem sumI_cut (G : Int → Int) {h : Int} (hh : 0 ≤ h ∧ h ≤ 12) : sumI (fun p => if p < h then G p else 0) 12 = sumI G h := by
  obtain ⟨n, hn⟩ := Int.eq_ofNat_of_zero_le (show 0 ≤ 12 - h by omega)
  rw [show (12 : Int) = h + (n : Int) by omega, sumI_app _ hh.1, sumI_ext (h := G) hh.1 (fun k h1 h2 => if_pos h2), sumI_ext (f := fun j => if h + j < h then G (h + j) else 0) (h := fun _ => 0) (by omega) (fun k h1 h2 => if_neg (by omega)), sumI_zero]
  omega
theorem sumI_36 (G : Int → Int → Int) {ht : Int → Int} (hb : bnd ht 0 12) : sumI (fun j => if j % 12 < ht (j / 12) then G (j / 12) (j % 12) else 0) 36 = sumI (fun sta => sumI (fun pl => G sta pl) (ht sta)) 3 := by
  have c0 := hb 0
  have c1 := hb 1
  have c2 := hb 2
  have hR : sumI (fun sta => sumI (fun pl => G sta pl) (ht sta)) 3 = sumI (fun pl => G 0 pl) (ht 0) + sumI (fun pl => G 1 pl) (ht 1) + sumI (fun pl => G 2 pl) (ht 2) := by
    rw [show (3 : Int) = 0 + 1 + 1 + 1 by omega, sumI_step _ (by omega), sumI_step _ (by omega), sumI_step _ (by omega), sumI_0]
    simp
  rw [hR, show (36 : Int) = 24 + ((12 : Nat) : Int) by omega, sumI_app _ (by omega), show (24 : Int) = 12 + ((12 : Nat) : Int) by omega, sumI_app _ (by omega)]
  rw [← sumI_cut (fun pl => G 0 pl) c0, ← sumI_cut (fun pl => G 1 pl) c1, ← sumI_cut (fun pl => G 2 pl) c2]
  refine congr (congrArg HAdd.hAdd (congr (congrArg HAdd.hAdd (sumI_ext (by omega) fun k h1 h2 => ?_)) (sumI_ext (by omega) fun k h1 h2 => ?_))) (sumI_ext (by omega) fun k h1 h2 => ?_)
  · rw [show k % 12 = k by omega, show k / 12 = 0 by omega]
  · have e1 : ((12 : Int) + k) % 12 = k := by omega
    have e2 : ((12 : Int) + k) / 12 = 1 := by omega
    simp only [e1, e2]
  · have e1 : ((12 : Int) + ((12 : Nat) : Int) + k) % 12 = k := by omega
    have e2 : ((12 : Int) + ((12 : Nat) : Int) + k) / 12 = 2 := by omega
    simp only [e1, e2]
/-- how many rings of a stack are cured -/
def cuF (ht yc : Int → Int) (hou : Int) : Int → Int := fun sta => sumI (fun pl => bI (mx 0 (yc (sta * 12 + pl) + 24 - hou) = 0)) (ht sta)
theorem cuF_b {ht yc : Int → Int} {hou : Int} (hb : bnd ht 0 12) : 0 ≤ sumI (cuF ht yc hou) 3 ∧ sumI (cuF ht yc hou) 3 ≤ 36 := by
  refine sumI_b (n := 3) (B := 12) (fun sta => ?_) (by omega)
  have h1 := hb sta
  have h2 := sumI_b (f := fun pl => bI (mx 0 (yc (sta * 12 + pl) + 24 - hou) = 0)) (n := ht sta) (B := 1) (fun pl => by show 0 ≤ bI _ ∧ bI _ ≤ 1; unfold bI; split <;> omega) h1.1
  show 0 ≤ sumI (fun pl => bI (mx 0 (yc (sta * 12 + pl) + 24 - hou) = 0)) (ht sta) ∧ sumI (fun pl => bI (mx 0 (yc (sta * 12 + pl) + 24 - hou) = 0)) (ht sta) ≤ 12
  omega
theorem nuF_eq {ht : Int → Int} (hb : bnd ht 0 12) : sumI (fun sta => sumI (fun _ => 1) (ht sta)) 3 = sumI ht 3 := by
  refine sumI_ext (by omega) fun k _ _ => ?_
  obtain ⟨n, hn⟩ := Int.eq_ofNat_of_zero_le (hb k).1
  rw [hn]
  exact sumI_ones n
section XFL
variable {p : Program} {l : Launch} {e : Env} {R : Room} {s : State} {m : MethodId} {args : Array Value} {below : List Frame} {meth : Method} {c : Code} {H : Heap} {locs : List Loc} {cells slots : Nat} {Q : State → Prop}
variable {cc : ByteArray} {pc : Nat} {ls : Array Slot} {rest : List Value} {g : xg} {A : Nat → Prop} {ws : va_W} {mc ms : Nat}
theorem x_fret (hx : p.tables.exec = Jvm.exec) (hb : c.code = cc) (hr : meth.sig.returnType = some .float) (hlocks : meth.locks = false) (hP : va_P (gD g) vwCl ws H) (hD : va_D A ws) (hS : va_S A s.heap H locs) {S : Type} {val : S → UInt32} {Φ : S → Prop} {W1 : S → va_W} {v : UInt32} (d : decode cc pc = .ok (.freturn, 1)) (u : S) (hv : v = val u) (hu : Φ u) (hW : ws = W1 u) (h1 : cells ≤ mc) (h2 : slots ≤ ms) :
    W p l e R s m args below meth c H locs cells slots (MQ below (va_Qf (fun r u => r = val u ∧ Φ u) (fun u t => xE g A (W1 u) t) A) args s mc ms A) (F0 m pc ls [.float v]) := by
  refine W.widen (k := mc) (n := ms) h1 h2 ?_
  exact W.fret (v := v) hx hb hr (fun t ht hW9 => ⟨⟨v, u, rfl, ⟨hv, hu⟩, ⟨by rw [ht, ← hW]; exact hP, by rw [← hW]; exact hD⟩⟩, hS.F ht⟩) hS.2.2 d
theorem x_dret (hx : p.tables.exec = Jvm.exec) (hb : c.code = cc) (hr : meth.sig.returnType = some .double) (hlocks : meth.locks = false) (hP : va_P (gD g) vwCl ws H) (hD : va_D A ws) (hS : va_S A s.heap H locs) {S : Type} {val : S → UInt64} {Φ : S → Prop} {W1 : S → va_W} {v : UInt64} (d : decode cc pc = .ok (.dreturn, 1)) (u : S) (hv : v = val u) (hu : Φ u) (hW : ws = W1 u) (h1 : cells ≤ mc) (h2 : slots ≤ ms) :
    W p l e R s m args below meth c H locs cells slots (MQ below (va_Qd (fun r u => r = val u ∧ Φ u) (fun u t => xE g A (W1 u) t) A) args s mc ms A) (F0 m pc ls [.double v]) := by
  refine W.widen (k := mc) (n := ms) h1 h2 ?_
  exact W.dret (v := v) hx hb hr (fun t ht hW9 => ⟨⟨v, u, rfl, ⟨hv, hu⟩, ⟨by rw [ht, ← hW]; exact hP, by rw [← hW]; exact hD⟩⟩, hS.F ht⟩) hS.2.2 d
end XFL
