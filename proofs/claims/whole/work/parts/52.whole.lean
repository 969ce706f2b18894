/-- the law, from its entry -/
theorem whole_start {p : Program} {e : Env} {s : State} {m : MethodId} {below : List Frame} {meth : Method} {c : Code} (l : Launch) {b L : Nat} {xs : Nat → Int32} (hL : L ≤ 1539) (C0 : lw_At p s m meth c b L xs) : W p l e room_1 s m #[Value.ref b] below meth c s.heap [] 0 0 (lw_Z below #[Value.ref b] s) (entryFrame m ([Value.ref b] : List Value).toArray 4) := by
  obtain ⟨hx, hb, hr, hml, hown, hts, hX, hbl, hlocks, hgv⟩ := C0
  have hs := flat_of_before _ hgv
  have hA : ∀ q : Nat, s.heap.size ≤ q → (fun q : Nat => s.heap.size ≤ q) q := fun _ h => h
  have hbA : ¬ (fun q : Nat => s.heap.size ≤ q) b := Nat.not_le.mpr hbl
  have hnA : ∀ a : Nat, a < s.heap.size → ¬ (fun q : Nat => s.heap.size ≤ q) a := fun a h => Nat.not_le.mpr h
  obtain ⟨D, cI, cG, hE⟩ := gx_K hts
  obtain ⟨t1, z1, u1⟩ := gx_tG (A := fun q : Nat => s.heap.size ≤ q) hs hts hnA
  obtain ⟨t2, z2, u2⟩ := gx_tN (A := fun q : Nat => s.heap.size ≤ q) hs hts hnA
  obtain ⟨t3, z3, u3⟩ := gx_tL (A := fun q : Nat => s.heap.size ≤ q) hs hts hnA
  have F : LF p room_1 s m #[Value.ref b] c (fun q : Nat => s.heap.size ≤ q) D cI cG (t1, t2, t3) b L (flm (cel L xs 2) 256) xs := ⟨rfl, hx, hb, hml, hown, fun w h => hts w (wsL_law_in w h), hE, ⟨⟨z1, u1⟩, ⟨z2, u2⟩, ⟨z3, u3⟩⟩, hA, hX, hbl, hbA, hL, flm_lt _ (by decide)⟩
  refine law_start F (fun H locs ls hS => ?_)
  refine va_forget (fun q hq => hS.2.2 q hq) ?_
  refine W.widen (k := 600000) (n := 7302250) (by decide) (by decide) ?_
  exact lw_ret hx hb hr hlocks dL_law_374
