theorem law_side {args : Array Value} {s : State} (hts : ∀ w ∈ lw_tbl, w.before args s = true) (hgv : (Jvm.Cond.and given_1 narrow_1).before args s = true) :
    ∃ t : Nat, va_Z "TunnelRing" "TO_SIDE" "[I" (.ref t) (fun q : Nat => s.heap.size ≤ q) s s.heap ∧ va_T .int t 8 (fun j => .int (ar toSide j)) (fun q : Nat => s.heap.size ≤ q) s s.heap := by
  have hs := flat_of_before _ hgv
  have hA : ∀ a : Nat, a < s.heap.size → ¬ (fun q : Nat => s.heap.size ≤ q) a := fun a h => Nat.not_le.mpr h
  obtain ⟨t, ht, hT⟩ := va_Tof (args := args) (s := s) (tm := (.static "TunnelRing" "TO_SIDE" "[I")) (ty := .int) (N := 8) (f := fun j => .int (ar toSide j)) (A := fun q : Nat => s.heap.size ≤ q) (by decide) (hs (.arrayOf (.static "TunnelRing" "TO_SIDE" "[I") .int) (by decide +kernel)) (va_eqv (hs (.eq (.length (.static "TunnelRing" "TO_SIDE" "[I")) (.int 8)) (by decide +kernel)) rfl) (fun j hj => by
    match j, hj with
    | 0, _ => exact (va_eqv (v := .int (0)) (hs (.eq (.elem (.static "TunnelRing" "TO_SIDE" "[I") (.int 0)) (.int (0))) (by decide +kernel)) rfl).trans (congrArg (fun x => some (Value.int x)) (show (0 : Int32) = ar toSide 0 by decide))
    | 1, _ => exact (va_eqv (v := .int (1)) (hs (.eq (.elem (.static "TunnelRing" "TO_SIDE" "[I") (.int 1)) (.int (1))) (by decide +kernel)) rfl).trans (congrArg (fun x => some (Value.int x)) (show (1 : Int32) = ar toSide 1 by decide))
    | 2, _ => exact (va_eqv (v := .int (1)) (hs (.eq (.elem (.static "TunnelRing" "TO_SIDE" "[I") (.int 2)) (.int (1))) (by decide +kernel)) rfl).trans (congrArg (fun x => some (Value.int x)) (show (1 : Int32) = ar toSide 2 by decide))
    | 3, _ => exact (va_eqv (v := .int (1)) (hs (.eq (.elem (.static "TunnelRing" "TO_SIDE" "[I") (.int 3)) (.int (1))) (by decide +kernel)) rfl).trans (congrArg (fun x => some (Value.int x)) (show (1 : Int32) = ar toSide 3 by decide))
    | 4, _ => exact (va_eqv (v := .int (0)) (hs (.eq (.elem (.static "TunnelRing" "TO_SIDE" "[I") (.int 4)) (.int (0))) (by decide +kernel)) rfl).trans (congrArg (fun x => some (Value.int x)) (show (0 : Int32) = ar toSide 4 by decide))
    | 5, _ => exact (va_eqv (v := .int (-1)) (hs (.eq (.elem (.static "TunnelRing" "TO_SIDE" "[I") (.int 5)) (.int (-1))) (by decide +kernel)) rfl).trans (congrArg (fun x => some (Value.int x)) (show (-1 : Int32) = ar toSide 5 by decide))
    | 6, _ => exact (va_eqv (v := .int (-1)) (hs (.eq (.elem (.static "TunnelRing" "TO_SIDE" "[I") (.int 6)) (.int (-1))) (by decide +kernel)) rfl).trans (congrArg (fun x => some (Value.int x)) (show (-1 : Int32) = ar toSide 6 by decide))
    | 7, _ => exact (va_eqv (v := .int (-1)) (hs (.eq (.elem (.static "TunnelRing" "TO_SIDE" "[I") (.int 7)) (.int (-1))) (by decide +kernel)) rfl).trans (congrArg (fun x => some (Value.int x)) (show (-1 : Int32) = ar toSide 7 by decide))
    | k + 8, h => omega) hA
  exact ⟨t, va_Zof (hts (.laysStatic "TunnelRing" "TO_SIDE" "[I") (by decide +kernel)) (hts (.initialized "TunnelRing") (by decide +kernel)) ht hA, hT⟩
theorem law_up {args : Array Value} {s : State} (hts : ∀ w ∈ lw_tbl, w.before args s = true) (hgv : (Jvm.Cond.and given_1 narrow_1).before args s = true) :
    ∃ t : Nat, va_Z "TunnelRing" "UPWARD" "[I" (.ref t) (fun q : Nat => s.heap.size ≤ q) s s.heap ∧ va_T .int t 8 (fun j => .int (ar upward j)) (fun q : Nat => s.heap.size ≤ q) s s.heap := by
  have hs := flat_of_before _ hgv
  have hA : ∀ a : Nat, a < s.heap.size → ¬ (fun q : Nat => s.heap.size ≤ q) a := fun a h => Nat.not_le.mpr h
  obtain ⟨t, ht, hT⟩ := va_Tof (args := args) (s := s) (tm := (.static "TunnelRing" "UPWARD" "[I")) (ty := .int) (N := 8) (f := fun j => .int (ar upward j)) (A := fun q : Nat => s.heap.size ≤ q) (by decide) (hs (.arrayOf (.static "TunnelRing" "UPWARD" "[I") .int) (by decide +kernel)) (va_eqv (hs (.eq (.length (.static "TunnelRing" "UPWARD" "[I")) (.int 8)) (by decide +kernel)) rfl) (fun j hj => by
    match j, hj with
    | 0, _ => exact (va_eqv (v := .int (1)) (hs (.eq (.elem (.static "TunnelRing" "UPWARD" "[I") (.int 0)) (.int (1))) (by decide +kernel)) rfl).trans (congrArg (fun x => some (Value.int x)) (show (1 : Int32) = ar upward 0 by decide))
    | 1, _ => exact (va_eqv (v := .int (1)) (hs (.eq (.elem (.static "TunnelRing" "UPWARD" "[I") (.int 1)) (.int (1))) (by decide +kernel)) rfl).trans (congrArg (fun x => some (Value.int x)) (show (1 : Int32) = ar upward 1 by decide))
    | 2, _ => exact (va_eqv (v := .int (0)) (hs (.eq (.elem (.static "TunnelRing" "UPWARD" "[I") (.int 2)) (.int (0))) (by decide +kernel)) rfl).trans (congrArg (fun x => some (Value.int x)) (show (0 : Int32) = ar upward 2 by decide))
    | 3, _ => exact (va_eqv (v := .int (-1)) (hs (.eq (.elem (.static "TunnelRing" "UPWARD" "[I") (.int 3)) (.int (-1))) (by decide +kernel)) rfl).trans (congrArg (fun x => some (Value.int x)) (show (-1 : Int32) = ar upward 3 by decide))
    | 4, _ => exact (va_eqv (v := .int (-1)) (hs (.eq (.elem (.static "TunnelRing" "UPWARD" "[I") (.int 4)) (.int (-1))) (by decide +kernel)) rfl).trans (congrArg (fun x => some (Value.int x)) (show (-1 : Int32) = ar upward 4 by decide))
    | 5, _ => exact (va_eqv (v := .int (-1)) (hs (.eq (.elem (.static "TunnelRing" "UPWARD" "[I") (.int 5)) (.int (-1))) (by decide +kernel)) rfl).trans (congrArg (fun x => some (Value.int x)) (show (-1 : Int32) = ar upward 5 by decide))
    | 6, _ => exact (va_eqv (v := .int (0)) (hs (.eq (.elem (.static "TunnelRing" "UPWARD" "[I") (.int 6)) (.int (0))) (by decide +kernel)) rfl).trans (congrArg (fun x => some (Value.int x)) (show (0 : Int32) = ar upward 6 by decide))
    | 7, _ => exact (va_eqv (v := .int (1)) (hs (.eq (.elem (.static "TunnelRing" "UPWARD" "[I") (.int 7)) (.int (1))) (by decide +kernel)) rfl).trans (congrArg (fun x => some (Value.int x)) (show (1 : Int32) = ar upward 7 by decide))
    | k + 8, h => omega) hA
  exact ⟨t, va_Zof (hts (.laysStatic "TunnelRing" "UPWARD" "[I") (by decide +kernel)) (hts (.initialized "TunnelRing") (by decide +kernel)) ht hA, hT⟩
