theorem law_ctx {args : Array Value} {s : State} (hts : ∀ w ∈ lw_tbl, w.before args s = true) (hgv : (Jvm.Cond.and given_1 narrow_1).before args s = true) :
    ∃ (g : xg) (gl : ClassId × ClassId), xC g (fun q : Nat => s.heap.size ≤ q) s s.heap ∧ xL g gl s := by
  obtain ⟨D, hD⟩ := law_Kn hts
  obtain ⟨c1, p1, n1⟩ := law_arr (ty := .int) (hts (.arrayClass .int) (by decide +kernel))
  obtain ⟨c2, p2, n2⟩ := law_arr (ty := .char) (hts (.arrayClass .char) (by decide +kernel))
  obtain ⟨c3, p3, n3⟩ := law_arr (ty := .long) (hts (.arrayClass .long) (by decide +kernel))
  obtain ⟨c4, p4, n4⟩ := law_arr (ty := .double) (hts (.arrayClass .double) (by decide +kernel))
  obtain ⟨tT, z1, t1⟩ := law_side hts hgv
  obtain ⟨tU, z2, t2⟩ := law_up hts hgv
  obtain ⟨u1, u2⟩ := law_UN hts hgv
  refine ⟨(D, c1, c2, tT, tU), (c3, c4), ⟨⟨hD, fun k q hk => ?_⟩, ⟨z1, t1⟩, ⟨z2, t2⟩, u1, u2, law_str hts hgv, law_nest hts, law_nestF hts, n1, n2, law_cast hts, law_decl hts⟩, ⟨hD, fun k q hk => ?_⟩, law_pairs hgv⟩
  · match k, hk with
    | 0, hk => cases hk; exact ⟨p1, n1⟩
    | 1, hk => cases hk; exact ⟨p2, n2⟩
    | k + 2, hk => simp at hk
  · match k, hk with
    | 0, hk => cases hk; exact ⟨p3, n3⟩
    | 1, hk => cases hk; exact ⟨p4, n4⟩
    | k + 2, hk => simp at hk
