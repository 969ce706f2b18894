/-! ===== what the Statement gives at the start ===== -/
theorem gx_over {args : Array Value} {s : State} (h : (Cond.arrayOver (.array .int)).before args s = true) : ∃ (comp c : ClassId) (k : Class), s.vm.findClass (FieldType.array .int).toString = some comp ∧ s.vm.classes[c]? = some k ∧ k.kind = .array comp (.array .int) ∧ s.vm.findClass ("[" ++ (FieldType.array .int).toString) = some c := by
  simp only [Cond.before, Cond.holds, Cond.value, beq_iff_eq] at h
  cases hc : s.vm.findClass (FieldType.array .int).toString with
  | none => simp [hc] at h
  | some comp =>
    simp only [hc, Option.bind_some, Option.bind_eq_some_iff, Option.map_eq_some_iff] at h
    obtain ⟨c, hi, k, hk, hb⟩ := h
    have hp := (Array.findIdx?_eq_some_iff_getElem.mp hi).2.1
    rw [(Array.getElem?_eq_some_iff.mp hk).2] at hp
    cases hkind : k.kind with
    | array component ty =>
      rw [hkind] at hb hp
      simp at hb hp
      exact ⟨comp, c, k, rfl, hk, by rw [hkind, hp, hb.1], hb.2⟩
    | _ => rw [hkind] at hb; simp at hb
set_option maxRecDepth 20000 in
theorem gx_tG {args : Array Value} {s : State} {A : Nat → Prop} (hs : ∀ c ∈ flatC (Jvm.Cond.and given_1 narrow_1), c.before args s = true) (hts : ∀ w ∈ lw_tbl, w.before args s = true) (hA : ∀ a : Nat, a < s.heap.size → ¬ A a) : ∃ t : Nat, va_Z RX7 "GROUP_OF_NIBBLE" "[I" (.ref t) A s s.heap ∧ va_T .int t 16 (fun j => .int (tabG.getD j 0)) A s s.heap := by
  have hel : ∀ j : Nat, j < 16 → (Term.elem (.static "ScrambledLine" "GROUP_OF_NIBBLE" "[I") (.int (Int32.ofNat j))).eval args s none [] s = some (.int (tabG.getD j 0)) := fun j hj => by
    rcases (show j = 0 ∨ j = 1 ∨ j = 2 ∨ j = 3 ∨ j = 4 ∨ j = 5 ∨ j = 6 ∨ j = 7 ∨ j = 8 ∨ j = 9 ∨ j = 10 ∨ j = 11 ∨ j = 12 ∨ j = 13 ∨ j = 14 ∨ j = 15 by omega) with rfl | rfl | rfl | rfl | rfl | rfl | rfl | rfl | rfl | rfl | rfl | rfl | rfl | rfl | rfl | rfl
    · exact va_eqt (hs (.eq (.elem (.static "ScrambledLine" "GROUP_OF_NIBBLE" "[I") (.int 0)) (.int 30)) (by decide +kernel))
    · exact va_eqt (hs (.eq (.elem (.static "ScrambledLine" "GROUP_OF_NIBBLE" "[I") (.int 1)) (.int 9)) (by decide +kernel))
    · exact va_eqt (hs (.eq (.elem (.static "ScrambledLine" "GROUP_OF_NIBBLE" "[I") (.int 2)) (.int 20)) (by decide +kernel))
    · exact va_eqt (hs (.eq (.elem (.static "ScrambledLine" "GROUP_OF_NIBBLE" "[I") (.int 3)) (.int 21)) (by decide +kernel))
    · exact va_eqt (hs (.eq (.elem (.static "ScrambledLine" "GROUP_OF_NIBBLE" "[I") (.int 4)) (.int 10)) (by decide +kernel))
    · exact va_eqt (hs (.eq (.elem (.static "ScrambledLine" "GROUP_OF_NIBBLE" "[I") (.int 5)) (.int 11)) (by decide +kernel))
    · exact va_eqt (hs (.eq (.elem (.static "ScrambledLine" "GROUP_OF_NIBBLE" "[I") (.int 6)) (.int 14)) (by decide +kernel))
    · exact va_eqt (hs (.eq (.elem (.static "ScrambledLine" "GROUP_OF_NIBBLE" "[I") (.int 7)) (.int 15)) (by decide +kernel))
    · exact va_eqt (hs (.eq (.elem (.static "ScrambledLine" "GROUP_OF_NIBBLE" "[I") (.int 8)) (.int 18)) (by decide +kernel))
    · exact va_eqt (hs (.eq (.elem (.static "ScrambledLine" "GROUP_OF_NIBBLE" "[I") (.int 9)) (.int 19)) (by decide +kernel))
    · exact va_eqt (hs (.eq (.elem (.static "ScrambledLine" "GROUP_OF_NIBBLE" "[I") (.int 10)) (.int 22)) (by decide +kernel))
    · exact va_eqt (hs (.eq (.elem (.static "ScrambledLine" "GROUP_OF_NIBBLE" "[I") (.int 11)) (.int 23)) (by decide +kernel))
    · exact va_eqt (hs (.eq (.elem (.static "ScrambledLine" "GROUP_OF_NIBBLE" "[I") (.int 12)) (.int 26)) (by decide +kernel))
    · exact va_eqt (hs (.eq (.elem (.static "ScrambledLine" "GROUP_OF_NIBBLE" "[I") (.int 13)) (.int 27)) (by decide +kernel))
    · exact va_eqt (hs (.eq (.elem (.static "ScrambledLine" "GROUP_OF_NIBBLE" "[I") (.int 14)) (.int 28)) (by decide +kernel))
    · exact va_eqt (hs (.eq (.elem (.static "ScrambledLine" "GROUP_OF_NIBBLE" "[I") (.int 15)) (.int 29)) (by decide +kernel))
  obtain ⟨t, ht, hT⟩ := va_Tof (A := A) (tm := (.static "ScrambledLine" "GROUP_OF_NIBBLE" "[I")) (N := 16) (f := fun j => .int (tabG.getD j 0)) (by decide) (hs (.arrayOf (.static "ScrambledLine" "GROUP_OF_NIBBLE" "[I") .int) (by decide +kernel)) (va_eqt (hs (.eq (.length (.static "ScrambledLine" "GROUP_OF_NIBBLE" "[I")) (.int 16)) (by decide +kernel))) hel hA
  exact ⟨t, va_Zref (hts (.laysStatic "ScrambledLine" "GROUP_OF_NIBBLE" "[I") (by decide +kernel)) (hts (.initialized "ScrambledLine") (by decide +kernel)) ht hA, hT⟩
set_option maxRecDepth 20000 in
theorem gx_tN {args : Array Value} {s : State} {A : Nat → Prop} (hs : ∀ c ∈ flatC (Jvm.Cond.and given_1 narrow_1), c.before args s = true) (hts : ∀ w ∈ lw_tbl, w.before args s = true) (hA : ∀ a : Nat, a < s.heap.size → ¬ A a) : ∃ t : Nat, va_Z RX7 "NIBBLE_OF_GROUP" "[I" (.ref t) A s s.heap ∧ va_T .int t 32 (fun j => .int (tabN.getD j 0)) A s s.heap := by
  have hel : ∀ j : Nat, j < 32 → (Term.elem (.static "ScrambledLine" "NIBBLE_OF_GROUP" "[I") (.int (Int32.ofNat j))).eval args s none [] s = some (.int (tabN.getD j 0)) := fun j hj => by
    rcases (show j = 0 ∨ j = 1 ∨ j = 2 ∨ j = 3 ∨ j = 4 ∨ j = 5 ∨ j = 6 ∨ j = 7 ∨ j = 8 ∨ j = 9 ∨ j = 10 ∨ j = 11 ∨ j = 12 ∨ j = 13 ∨ j = 14 ∨ j = 15 ∨ j = 16 ∨ j = 17 ∨ j = 18 ∨ j = 19 ∨ j = 20 ∨ j = 21 ∨ j = 22 ∨ j = 23 ∨ j = 24 ∨ j = 25 ∨ j = 26 ∨ j = 27 ∨ j = 28 ∨ j = 29 ∨ j = 30 ∨ j = 31 by omega) with rfl | rfl | rfl | rfl | rfl | rfl | rfl | rfl | rfl | rfl | rfl | rfl | rfl | rfl | rfl | rfl | rfl | rfl | rfl | rfl | rfl | rfl | rfl | rfl | rfl | rfl | rfl | rfl | rfl | rfl | rfl | rfl
    · exact va_eqt (hs (.eq (.elem (.static "ScrambledLine" "NIBBLE_OF_GROUP" "[I") (.int 0)) (.int (-1))) (by decide +kernel))
    · exact va_eqt (hs (.eq (.elem (.static "ScrambledLine" "NIBBLE_OF_GROUP" "[I") (.int 1)) (.int (-1))) (by decide +kernel))
    · exact va_eqt (hs (.eq (.elem (.static "ScrambledLine" "NIBBLE_OF_GROUP" "[I") (.int 2)) (.int (-1))) (by decide +kernel))
    · exact va_eqt (hs (.eq (.elem (.static "ScrambledLine" "NIBBLE_OF_GROUP" "[I") (.int 3)) (.int (-1))) (by decide +kernel))
    · exact va_eqt (hs (.eq (.elem (.static "ScrambledLine" "NIBBLE_OF_GROUP" "[I") (.int 4)) (.int (-1))) (by decide +kernel))
    · exact va_eqt (hs (.eq (.elem (.static "ScrambledLine" "NIBBLE_OF_GROUP" "[I") (.int 5)) (.int (-1))) (by decide +kernel))
    · exact va_eqt (hs (.eq (.elem (.static "ScrambledLine" "NIBBLE_OF_GROUP" "[I") (.int 6)) (.int (-1))) (by decide +kernel))
    · exact va_eqt (hs (.eq (.elem (.static "ScrambledLine" "NIBBLE_OF_GROUP" "[I") (.int 7)) (.int (-1))) (by decide +kernel))
    · exact va_eqt (hs (.eq (.elem (.static "ScrambledLine" "NIBBLE_OF_GROUP" "[I") (.int 8)) (.int (-1))) (by decide +kernel))
    · exact va_eqt (hs (.eq (.elem (.static "ScrambledLine" "NIBBLE_OF_GROUP" "[I") (.int 9)) (.int 1)) (by decide +kernel))
    · exact va_eqt (hs (.eq (.elem (.static "ScrambledLine" "NIBBLE_OF_GROUP" "[I") (.int 10)) (.int 4)) (by decide +kernel))
    · exact va_eqt (hs (.eq (.elem (.static "ScrambledLine" "NIBBLE_OF_GROUP" "[I") (.int 11)) (.int 5)) (by decide +kernel))
    · exact va_eqt (hs (.eq (.elem (.static "ScrambledLine" "NIBBLE_OF_GROUP" "[I") (.int 12)) (.int (-1))) (by decide +kernel))
    · exact va_eqt (hs (.eq (.elem (.static "ScrambledLine" "NIBBLE_OF_GROUP" "[I") (.int 13)) (.int (-1))) (by decide +kernel))
    · exact va_eqt (hs (.eq (.elem (.static "ScrambledLine" "NIBBLE_OF_GROUP" "[I") (.int 14)) (.int 6)) (by decide +kernel))
    · exact va_eqt (hs (.eq (.elem (.static "ScrambledLine" "NIBBLE_OF_GROUP" "[I") (.int 15)) (.int 7)) (by decide +kernel))
    · exact va_eqt (hs (.eq (.elem (.static "ScrambledLine" "NIBBLE_OF_GROUP" "[I") (.int 16)) (.int (-1))) (by decide +kernel))
    · exact va_eqt (hs (.eq (.elem (.static "ScrambledLine" "NIBBLE_OF_GROUP" "[I") (.int 17)) (.int (-1))) (by decide +kernel))
    · exact va_eqt (hs (.eq (.elem (.static "ScrambledLine" "NIBBLE_OF_GROUP" "[I") (.int 18)) (.int 8)) (by decide +kernel))
    · exact va_eqt (hs (.eq (.elem (.static "ScrambledLine" "NIBBLE_OF_GROUP" "[I") (.int 19)) (.int 9)) (by decide +kernel))
    · exact va_eqt (hs (.eq (.elem (.static "ScrambledLine" "NIBBLE_OF_GROUP" "[I") (.int 20)) (.int 2)) (by decide +kernel))
    · exact va_eqt (hs (.eq (.elem (.static "ScrambledLine" "NIBBLE_OF_GROUP" "[I") (.int 21)) (.int 3)) (by decide +kernel))
    · exact va_eqt (hs (.eq (.elem (.static "ScrambledLine" "NIBBLE_OF_GROUP" "[I") (.int 22)) (.int 10)) (by decide +kernel))
    · exact va_eqt (hs (.eq (.elem (.static "ScrambledLine" "NIBBLE_OF_GROUP" "[I") (.int 23)) (.int 11)) (by decide +kernel))
    · exact va_eqt (hs (.eq (.elem (.static "ScrambledLine" "NIBBLE_OF_GROUP" "[I") (.int 24)) (.int (-1))) (by decide +kernel))
    · exact va_eqt (hs (.eq (.elem (.static "ScrambledLine" "NIBBLE_OF_GROUP" "[I") (.int 25)) (.int (-1))) (by decide +kernel))
    · exact va_eqt (hs (.eq (.elem (.static "ScrambledLine" "NIBBLE_OF_GROUP" "[I") (.int 26)) (.int 12)) (by decide +kernel))
    · exact va_eqt (hs (.eq (.elem (.static "ScrambledLine" "NIBBLE_OF_GROUP" "[I") (.int 27)) (.int 13)) (by decide +kernel))
    · exact va_eqt (hs (.eq (.elem (.static "ScrambledLine" "NIBBLE_OF_GROUP" "[I") (.int 28)) (.int 14)) (by decide +kernel))
    · exact va_eqt (hs (.eq (.elem (.static "ScrambledLine" "NIBBLE_OF_GROUP" "[I") (.int 29)) (.int 15)) (by decide +kernel))
    · exact va_eqt (hs (.eq (.elem (.static "ScrambledLine" "NIBBLE_OF_GROUP" "[I") (.int 30)) (.int 0)) (by decide +kernel))
    · exact va_eqt (hs (.eq (.elem (.static "ScrambledLine" "NIBBLE_OF_GROUP" "[I") (.int 31)) (.int (-1))) (by decide +kernel))
  obtain ⟨t, ht, hT⟩ := va_Tof (A := A) (tm := (.static "ScrambledLine" "NIBBLE_OF_GROUP" "[I")) (N := 32) (f := fun j => .int (tabN.getD j 0)) (by decide) (hs (.arrayOf (.static "ScrambledLine" "NIBBLE_OF_GROUP" "[I") .int) (by decide +kernel)) (va_eqt (hs (.eq (.length (.static "ScrambledLine" "NIBBLE_OF_GROUP" "[I")) (.int 32)) (by decide +kernel))) hel hA
  exact ⟨t, va_Zref (hts (.laysStatic "ScrambledLine" "NIBBLE_OF_GROUP" "[I") (by decide +kernel)) (hts (.initialized "ScrambledLine") (by decide +kernel)) ht hA, hT⟩
set_option maxRecDepth 20000 in
theorem gx_tL {args : Array Value} {s : State} {A : Nat → Prop} (hs : ∀ c ∈ flatC (Jvm.Cond.and given_1 narrow_1), c.before args s = true) (hts : ∀ w ∈ lw_tbl, w.before args s = true) (hA : ∀ a : Nat, a < s.heap.size → ¬ A a) : ∃ t : Nat, va_Z RX7 "LEVELS" "[I" (.ref t) A s s.heap ∧ va_T .int t 4 (fun j => .int (tabL.getD j 0)) A s s.heap := by
  have hel : ∀ j : Nat, j < 4 → (Term.elem (.static "ScrambledLine" "LEVELS" "[I") (.int (Int32.ofNat j))).eval args s none [] s = some (.int (tabL.getD j 0)) := fun j hj => by
    rcases (show j = 0 ∨ j = 1 ∨ j = 2 ∨ j = 3 by omega) with rfl | rfl | rfl | rfl
    · exact va_eqt (hs (.eq (.elem (.static "ScrambledLine" "LEVELS" "[I") (.int 0)) (.int 0)) (by decide +kernel))
    · exact va_eqt (hs (.eq (.elem (.static "ScrambledLine" "LEVELS" "[I") (.int 1)) (.int 1)) (by decide +kernel))
    · exact va_eqt (hs (.eq (.elem (.static "ScrambledLine" "LEVELS" "[I") (.int 2)) (.int 0)) (by decide +kernel))
    · exact va_eqt (hs (.eq (.elem (.static "ScrambledLine" "LEVELS" "[I") (.int 3)) (.int (-1))) (by decide +kernel))
  obtain ⟨t, ht, hT⟩ := va_Tof (A := A) (tm := (.static "ScrambledLine" "LEVELS" "[I")) (N := 4) (f := fun j => .int (tabL.getD j 0)) (by decide) (hs (.arrayOf (.static "ScrambledLine" "LEVELS" "[I") .int) (by decide +kernel)) (va_eqt (hs (.eq (.length (.static "ScrambledLine" "LEVELS" "[I")) (.int 4)) (by decide +kernel))) hel hA
  exact ⟨t, va_Zref (hts (.laysStatic "ScrambledLine" "LEVELS" "[I") (by decide +kernel)) (hts (.initialized "ScrambledLine") (by decide +kernel)) ht hA, hT⟩
set_option maxRecDepth 20000 in
theorem gx_NW {args : Array Value} {s : State} (hts : ∀ w ∈ lw_tbl, w.before args s = true) : NW s := ⟨va_Nw.of rfl (hts (.fieldLinkNest RX7 104 "ScrambledLine$Inbox" "goodSource" "I" RX7) (by decide +kernel)), va_Nw.of rfl (hts (.fieldLinkNest RX7 107 "ScrambledLine$Inbox" "goodLength" "I" RX7) (by decide +kernel)), va_Nw.of rfl (hts (.fieldLinkNest RX7 44 "ScrambledLine$Sender" "outbox" "LScrambledLine$Outbox;" RX7) (by decide +kernel)), va_Nw.of rfl (hts (.fieldLinkNest RX7 74 "ScrambledLine$Outbox" "frameCount" "I" RX7) (by decide +kernel)), va_Nw.of rfl (hts (.fieldLinkNest RX7 78 "ScrambledLine$Sender" "inFrame" "Z" RX7) (by decide +kernel)), va_Nw.of rfl (hts (.fieldLinkNest RX7 82 "ScrambledLine$Sender" "scrambler" "LScrambledLine$Scrambler;" RX7) (by decide +kernel)), va_Nw.of rfl (hts (.fieldLinkNest RX7 86 "ScrambledLine$Scrambler" "bits" "I" RX7) (by decide +kernel)), va_Nw.of rfl (hts (.fieldLinkNest RX7 91 "ScrambledLine$Listener" "mode" "I" RX7) (by decide +kernel)), va_Nw.of rfl (hts (.fieldLinkNest RX7 94 "ScrambledLine$Listener" "inbox" "LScrambledLine$Inbox;" RX7) (by decide +kernel)), va_Nw.of rfl (hts (.fieldLinkNest RX7 98 "ScrambledLine$Inbox" "counts" "[I" RX7) (by decide +kernel)), va_Nw.of rfl (hts (.fieldLinkNest RX2 60 "ScrambledLine$Reader" "bytes" "[I" RX7) (by decide +kernel)), va_Nw.of rfl (hts (.fieldLinkNest RX4 46 "ScrambledLine" "NIBBLE_OF_GROUP" "[I" RX7) (by decide +kernel)), va_Nw.of rfl (hts (.fieldLinkNest RX6 60 "ScrambledLine" "LEVELS" "[I" RX7) (by decide +kernel)), va_Nw.of rfl (hts (.fieldLinkNest RX6 76 "ScrambledLine$Outbox" "frameCount" "I" RX7) (by decide +kernel)), va_Nw.of rfl (hts (.fieldLinkNest RX6 93 "ScrambledLine" "GROUP_OF_NIBBLE" "[I" RX7) (by decide +kernel)), va_Nw.of rfl (hts (.methodLinkNest RX2 22 yX1_init RX7) (by decide +kernel)), va_Nw.of rfl (hts (.methodLinkNest RX3 37 yX7_frameSize RX7) (by decide +kernel)), va_Nw.of rfl (hts (.methodLinkNest RX3 53 yX7_checkOf RX7) (by decide +kernel)), va_Nw.of rfl (hts (.methodLinkNest RX4 59 yX7_checkOf RX7) (by decide +kernel)), va_Nw.of rfl (hts (.methodLinkNest RX4 63 yX7_frameSize RX7) (by decide +kernel)), va_Nw.of rfl (hts (.methodLinkNest RX6 96 yX7_frameSize RX7) (by decide +kernel))⟩
set_option maxRecDepth 20000 in
theorem gx_K {args : Array Value} {s : State} (hts : ∀ w ∈ lw_tbl, w.before args s = true) : ∃ (D : va_G) (cI cG : ClassId), EV D cI cG s := by
  obtain ⟨c0, i0, k0⟩ := u_known (C := RX0) (T := TX0) (N := 2) (n := 2) hts in_wsX00 (hts (.instantiable RX0 2) (by decide +kernel))
  obtain ⟨c1, i1, k1⟩ := u_known (C := RX1) (T := TX1) (N := 4) (n := 4) hts in_wsX10 (hts (.instantiable RX1 4) (by decide +kernel))
  obtain ⟨c2, i2, k2⟩ := u_known (C := RX2) (T := TX2) (N := 9) (n := 9) hts in_wsX20 (hts (.instantiable RX2 9) (by decide +kernel))
  obtain ⟨c3, i3, k3⟩ := u_known (C := RX3) (T := TX3) (N := 6) (n := 6) hts in_wsX30 (hts (.instantiable RX3 6) (by decide +kernel))
  obtain ⟨c4, i4, k4⟩ := u_known (C := RX4) (T := TX4) (N := 8) (n := 8) hts in_wsX40 (hts (.instantiable RX4 8) (by decide +kernel))
  obtain ⟨c5, i5, k5⟩ := u_known (C := RX5) (T := TX5) (N := 1) (n := 1) hts in_wsX50 (hts (.instantiable RX5 1) (by decide +kernel))
  obtain ⟨c6, i6, k6⟩ := u_known (C := RX6) (T := TX6) (N := 10) (n := 10) hts in_wsX60 (hts (.instantiable RX6 10) (by decide +kernel))
  obtain ⟨c7, i7, k7⟩ := u_known (C := RX7) (T := TX7) (N := 3) (n := 3) hts in_wsX70 (hts (.instantiable RX7 3) (by decide +kernel))
  obtain ⟨c8, i8, k8⟩ := u_known (C := RX8) (T := TX8) (N := 38) (n := 38) hts in_wsX80 (hts (.instantiable RX8 38) (by decide +kernel))
  obtain ⟨cI, kI, comp, hI1, hI2, hI3⟩ := Cond.arrayClass_spec (hts (.arrayClass .int) (by decide +kernel))
  obtain ⟨cI2, cG, kG, hG1, hG2, hG3, hG4⟩ := gx_over (hts (.arrayOver (.array .int)) (by decide +kernel))
  have e : cI2 = cI := Option.some.inj (Eq.trans (Eq.symm hG1) hI1)
  subst e
  refine ⟨(fun k => ([c0, c1, c2, c3, c4, c5, c6, c7, c8] : List ClassId).getD k 0, fun k => ([i0, i1, i2, i3, i4, i5, i6, i7, i8] : List (Nat → Nat)).getD k (fun _ => 0)), cI2, cG, ⟨fun k q hq => ?_, fun k q hq => ?_⟩, gx_NW hts, kG, hG2, hG3⟩
  · match k, hq with
    | 0, hq => cases hq; exact k0
    | 1, hq => cases hq; exact k1
    | 2, hq => cases hq; exact k2
    | 3, hq => cases hq; exact k3
    | 4, hq => cases hq; exact k4
    | 5, hq => cases hq; exact k5
    | 6, hq => cases hq; exact k6
    | 7, hq => cases hq; exact k7
    | 8, hq => cases hq; exact k8
    | k + 9, hq => simp [vwCl] at hq
  · match k, hq with
    | 0, hq => cases hq; exact ⟨fun n z => ⟨fun k h => (by cases h), kI, hI2, comp, hI3⟩, hI1⟩
    | 1, hq => cases hq; exact ⟨fun n z => ⟨fun k h => (by cases h), kG, hG2, cI2, hG3⟩, hG4⟩
    | k + 2, hq => simp at hq
