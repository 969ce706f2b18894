theorem nx_and (a b : Nat) : nI a &&& nI b = nI (a &&& b) := by
  apply Int32.toBitVec_inj.1
  show BitVec.ofNat 32 a &&& BitVec.ofNat 32 b = BitVec.ofNat 32 (a &&& b)
  apply BitVec.eq_of_getLsbD_eq
  intro i hi
  simp [hi]
theorem nx_xor (a b : Nat) : nI a ^^^ nI b = nI (a ^^^ b) := by
  apply Int32.toBitVec_inj.1
  show BitVec.ofNat 32 a ^^^ BitVec.ofNat 32 b = BitVec.ofNat 32 (a ^^^ b)
  apply BitVec.eq_of_getLsbD_eq
  intro i hi
  simp [hi]
theorem xor_m2 (a b : Nat) : (a ^^^ b) % 2 = (a + b) % 2 := by
  have h : (a ^^^ b) % 2 = 1 ↔ ¬ ((a % 2 = 1) ↔ (b % 2 = 1)) := Nat.xor_mod_two_eq_one
  have hl := Nat.mod_lt (a ^^^ b) (show 0 < 2 by decide)
  rcases Nat.mod_two_eq_zero_or_one a with ha | ha <;> rcases Nat.mod_two_eq_zero_or_one b with hb | hb
  · have : ¬ (a ^^^ b) % 2 = 1 := fun q => h.mp q ⟨fun z => by omega, fun z => by omega⟩
    omega
  · have : (a ^^^ b) % 2 = 1 := h.mpr (fun z => by have := z.mpr hb; omega)
    omega
  · have : (a ^^^ b) % 2 = 1 := h.mpr (fun z => by have := z.mp ha; omega)
    omega
  · have : ¬ (a ^^^ b) % 2 = 1 := fun q => h.mp q ⟨fun _ => hb, fun _ => ha⟩
    omega
theorem xor_01 : ∀ a b : Nat, a < 2 → b < 2 → a ^^^ b = (a + b) % 2
  | 0, 0, _, _ => rfl
  | 0, 1, _, _ => rfl
  | 1, 0, _, _ => rfl
  | 1, 1, _, _ => rfl
theorem upd_all {f : Nat → Int32} {i : Nat} {x : Int32} (h : ∀ j, j < i → f j = x) : ∀ j, j < i + 1 → upd f i x j = x := fun j hj => by
  by_cases e : j = i
  · subst e; exact pk_us
  · rw [pk_un e]; exact h j (by omega)
theorem upd_rng {f g : Nat → Int32} {a i : Nat} {x : Int32} (h : ∀ j, g j = if a ≤ j ∧ j < i then x else f j) (ha : a ≤ i) : ∀ j, upd g i x j = if a ≤ j ∧ j < i + 1 then x else f j := fun j => by
  by_cases e : j = i
  · subst e; rw [pk_us, if_pos ⟨ha, by omega⟩]
  · rw [pk_un e, h j]
    by_cases q : a ≤ j ∧ j < i
    · rw [if_pos q, if_pos ⟨q.1, by omega⟩]
    · rw [if_neg q, if_neg (by omega)]
theorem key_c {b : Nat} (hb : b < 2048) : (nI (b / 256) ^^^ nI (b / 1024)) &&& nI 1 = nI (kN b) := by
  have h1 : b / 256 < 2 ^ 11 := by omega
  have h2 : b / 1024 < 2 ^ 11 := by omega
  have h3 := Nat.xor_lt_two_pow h1 h2
  rw [nx_xor, pk_andN (show b / 256 ^^^ b / 1024 < 2 ^ 32 by omega) 1 rfl]
  show nI ((b / 256 ^^^ b / 1024) % 2) = _
  rw [xor_m2]
  rfl
/-- a hit is taken -/
def okH (k v : Int32) : Bool := decide (1 ≤ k) && decide (k ≤ 100) && decide (-1 ≤ v) && decide (v ≤ 1)
theorem okH_1 {k v : Int32} (h : k < nI 1) : okH k v = false := by
  have : ¬ (1 : Int32) ≤ k := Int32.not_le.mpr h
  simp [okH, this]
theorem okH_2 {k v : Int32} (h : nI 100 < k) : okH k v = false := by
  have : ¬ k ≤ (100 : Int32) := Int32.not_le.mpr h
  simp [okH, this]
theorem okH_3 {k v : Int32} (h : v < (-1)) : okH k v = false := by
  have : ¬ (-1 : Int32) ≤ v := Int32.not_le.mpr h
  simp [okH, this]
theorem okH_4 {k v : Int32} (h : ¬ v ≤ nI 1) : okH k v = false := by
  have : ¬ v ≤ (1 : Int32) := h
  simp [okH, this]
theorem okH_5 {k v : Int32} (h1 : ¬ k < nI 1) (h2 : ¬ nI 100 < k) (h3 : ¬ v < (-1)) (h4 : v ≤ nI 1) : okH k v = true := by
  have a1 : (1 : Int32) ≤ k := Int32.not_lt.mp h1
  have a2 : k ≤ (100 : Int32) := Int32.not_lt.mp h2
  have a3 : (-1 : Int32) ≤ v := Int32.not_lt.mp h3
  have a4 : v ≤ (1 : Int32) := h4
  simp [okH, a1, a2, a3, a4]
theorem okH_j {k v : Int32} (h : okH k v = true) : ∃ j : Nat, 1 ≤ j ∧ j ≤ 100 ∧ k = nI j := by
  have h' : (1 : Int32) ≤ k ∧ k ≤ 100 := by
    simp [okH] at h
    exact ⟨h.1.1.1, h.1.1.2⟩
  have h0 : ¬ k < 0 := by
    rw [Int32.lt_iff_toInt_lt]
    have := Int32.le_iff_toInt_le.mp h'.1
    simp at this ⊢
    omega
  obtain ⟨j, hj, rfl⟩ := nI_of2 (M := 100) (n := 100) rfl h0 h'.2
  refine ⟨j, ?_, hj, rfl⟩
  have := Int32.le_iff_toInt_le.mp h'.1
  rw [nI_toInt (by omega)] at this
  simp at this
  omega
set_option maxHeartbeats 4000000 in
set_option maxRecDepth 100000 in
theorem c_J7_fill_53178 (l : Launch) (D : va_G) (cI cG : ClassId) (tt : Nat × Nat × Nat) (sz : Nat) (a : Nat) (n : Nat) (f : Nat → Int32) (x : Int32) (hn : n < 2 ^ 31) : Met l yJ7_fill_53178 wsJ7_fill_53178 ({ frames := 0, cells := 0, slots := 0, locals := 0 }) (PC D cI cG tt [.ref a, .int x] [(a, .inl (cI, n, .inl f))] sz) (QV (fun (u : (Nat → Int32)) => match u with | g => (∀ j, j < n → g j = x)) (fun (u : (Nat → Int32)) => match u with | g => [(a, .inl (cI, n, .inl g))]) D (va_A [(a, .inl (cI, n, .inl f))] sz)) 0 0 (va_A [(a, .inl (cI, n, .inl f))] sz) := by
  refine ct_of (y := yJ7_fill_53178) (cc := cJ7_fill_53178) (maxL := 4) (ret := none) (Qf := QV (fun (u : (Nat → Int32)) => match u with | g => (∀ j, j < n → g j = x)) (fun (u : (Nat → Int32)) => match u with | g => [(a, .inl (cI, n, .inl g))]) D) (by decide) rfl ?_
  intro p e s m args below meth c A Q R H locs hR hQ hx hb hml hr hts hown hlocks hin hP hD hE hT hA hS
  have hK := hE.1
  have hl := lv_entry ([.ref a, .int x]) (n := 4) (Nat.le_of_ble_eq_true rfl)
  rw [lg_entry_eq]
  generalize (lg_sl ([.ref a, .int x]) ++ List.replicate (4 - (lg_sl ([.ref a, .int x])).length) Slot.unset).toArray = ls at hl ⊢
  have hl : lv_has ls 4 [(0, .ref a), (1, .int x)] := hl
  refine lv_iconst (v := nI 0) hx hb dJ7_fill_53178_0 rfl ?_
  refine lv_istore_n (lv' := [(2, .int (nI 0)), (0, .ref a), (1, .int x)]) hx hb dJ7_fill_53178_1 rfl hl (by decide) rfl (fun ls hl => ?_)
  refine lv_aload_n hx hb dJ7_fill_53178_2 rfl (lv_at hl 1 rfl) ?_
  refine va_alen hx hb hK hP 0 0 rfl rfl (v := nI n) rfl dJ7_fill_53178_3 ?_
  refine lv_istore_n (lv' := [(3, .int (nI n)), (2, .int (nI 0)), (0, .ref a), (1, .int x)]) hx hb dJ7_fill_53178_4 rfl hl (by decide) rfl (fun ls hl => ?_)
  have L5 : ∀ (fu5 : Nat), ∀ (i : Nat) (g : Nat → Int32), (i ≤ n) → (∀ j, j < i → g j = x) → n - i < fu5 → ∀ (H : Heap) (locs : List Loc), va_P D vwCl [(a, .inl (cI, n, .inl g))] H → va_D A [(a, .inl (cI, n, .inl g))] → va_S A s.heap H locs → ∀ ls : Array Slot, lv_has ls 4 [(3, .int (nI n)), (2, .int (nI i)), (0, .ref a), (1, .int x)] → W p l e R s m args below meth c H locs 0 0 Q (F0 m 5 ls []) := by
    intro fu5
    induction fu5 with
    | zero => intro i g hi hg hm5; exact absurd hm5 (Nat.not_lt_zero _)
    | succ fu5 ih5 =>
      intro i g hi hg hm5 H locs hP hD hS ls hl
      refine lv_iload_n hx hb dJ7_fill_53178_5 rfl (lv_at hl 1 rfl) ?_
      refine lv_iload_n hx hb dJ7_fill_53178_6 rfl (lv_at hl 0 rfl) ?_
      refine lv_icmp_ge (tgt := 20) hx hb dJ7_fill_53178_7 (by decide) (fun c7 => ?_) (fun c7 => ?_)
      · skip
        have k7 : n ≤ i := (nI_leI (a := n) (b := i) (by omega) (by omega)).mp c7
        refine W_q hQ ?_
        exact rt_v g hx hb hr hlocks dJ7_fill_53178_20 hS hP hD (fun j h => hg j (by omega))
      · skip
        have k7 : ¬ n ≤ i := fun zq => c7 ((nI_leI (a := n) (b := i) (by omega) (by omega)).mpr zq)
        refine lv_aload_n hx hb dJ7_fill_53178_10 rfl (lv_at hl 2 rfl) ?_
        refine lv_iload_n hx hb dJ7_fill_53178_11 rfl (lv_at hl 1 rfl) ?_
        refine lv_iload_n hx hb dJ7_fill_53178_12 rfl (lv_at hl 3 rfl) ?_
        refine gs_i hx hb hK hP hD hS 0 rfl (i := i) (x := x) (by omega) (by first | decide | omega) dJ7_fill_53178_13 (fun H locs hP hD hS => ?_)
        have hP : va_P D vwCl [(a, .inl (cI, n, .inl (upd g i x)))] H := hP
        have hD : va_D A [(a, .inl (cI, n, .inl (upd g i x)))] := hD
        refine lv_iinc (v := nI (i + 1)) (lv' := [(2, .int (nI (i + 1))), (3, .int (nI n)), (0, .ref a), (1, .int x)]) hx hb dJ7_fill_53178_14 hl (k := 1) rfl (nI_add i 1) (by decide) rfl (fun ls hl => ?_)
        refine lv_goto (tgt := 5) hx hb dJ7_fill_53178_17 (by decide) ?_
        exact ih5 (i + 1) (upd g i x) (by omega) (upd_all hg) (by omega) _ _ hP hD hS _ (lv_sub hl [1, 0, 2, 3] rfl)
  exact L5 _ 0 f (Nat.zero_le _) (fun j h => absurd h (Nat.not_lt_zero _)) (Nat.lt_succ_self _) _ _ hP hD hS _ (lv_sub hl [0, 1, 2, 3] rfl)

set_option maxHeartbeats 4000000 in
set_option maxRecDepth 100000 in
theorem c_J7_rangeCheck_23922 (l : Launch) (D : va_G) (cI cG : ClassId) (tt : Nat × Nat × Nat) (sz : Nat) (a : Nat) (b : Nat) (n : Nat) (h1 : a ≤ b) (h2 : b ≤ n) (h3 : n < 2 ^ 31) : Met l yJ7_rangeCheck_23922 wsJ7_rangeCheck_23922 ({ frames := 0, cells := 0, slots := 0, locals := 0 }) (PC D cI cG tt [.int (nI n), .int (nI a), .int (nI b)] [] sz) (QV (fun (u : Unit) => True) (fun (u : Unit) => []) D (va_A [] sz)) 0 0 (va_A [] sz) := by
  refine ct_of (y := yJ7_rangeCheck_23922) (cc := cJ7_rangeCheck_23922) (maxL := 3) (ret := none) (Qf := QV (fun (u : Unit) => True) (fun (u : Unit) => []) D) (by decide) rfl ?_
  intro p e s m args below meth c A Q R H locs hR hQ hx hb hml hr hts hown hlocks hin hP hD hE hT hA hS
  have hK := hE.1
  have hl := lv_entry ([.int (nI n), .int (nI a), .int (nI b)]) (n := 3) (Nat.le_of_ble_eq_true rfl)
  rw [lg_entry_eq]
  generalize (lg_sl ([.int (nI n), .int (nI a), .int (nI b)]) ++ List.replicate (3 - (lg_sl ([.int (nI n), .int (nI a), .int (nI b)])).length) Slot.unset).toArray = ls at hl ⊢
  have hl : lv_has ls 3 [(0, .int (nI n)), (1, .int (nI a)), (2, .int (nI b))] := hl
  refine lv_iload_n hx hb dJ7_rangeCheck_23922_0 rfl (lv_at hl 1 rfl) ?_
  refine lv_iload_n hx hb dJ7_rangeCheck_23922_1 rfl (lv_at hl 2 rfl) ?_
  refine lv_icmp_le (tgt := 46) hx hb dJ7_rangeCheck_23922_2 (by decide) (fun c2 => ?_) (fun c2 => ?_)
  · skip
    have k2 : a ≤ b := (nI_leI (a := a) (b := b) (by omega) (by omega)).mp c2
    refine lv_iload_n hx hb dJ7_rangeCheck_23922_46 rfl (lv_at hl 1 rfl) ?_
    refine lv_if_ge (tgt := 59) hx hb dJ7_rangeCheck_23922_47 (by decide) (fun c47 => ?_) (fun c47 => ?_)
    · skip
      have k47 : 0 ≤ a := (nI_leI (a := 0) (b := a) (by omega) (by omega)).mp c47
      refine lv_iload_n hx hb dJ7_rangeCheck_23922_59 rfl (lv_at hl 2 rfl) ?_
      refine lv_iload_n hx hb dJ7_rangeCheck_23922_60 rfl (lv_at hl 0 rfl) ?_
      refine lv_icmp_le (tgt := 73) hx hb dJ7_rangeCheck_23922_61 (by decide) (fun c61 => ?_) (fun c61 => ?_)
      · skip
        have k61 : b ≤ n := (nI_leI (a := b) (b := n) (by omega) (by omega)).mp c61
        refine W_q hQ ?_
        exact rt_v () hx hb hr hlocks dJ7_rangeCheck_23922_73 hS hP hD trivial
      · skip
        have k61 : ¬ b ≤ n := fun zq => c61 ((nI_leI (a := b) (b := n) (by omega) (by omega)).mpr zq)
        exact False.elim (by omega)
    · skip
      have k47 : ¬ 0 ≤ a := fun zq => c47 ((nI_leI (a := 0) (b := a) (by omega) (by omega)).mpr zq)
      exact False.elim (by omega)
  · skip
    have k2 : ¬ a ≤ b := fun zq => c2 ((nI_leI (a := a) (b := b) (by omega) (by omega)).mpr zq)
    exact False.elim (by omega)

set_option maxHeartbeats 4000000 in
set_option maxRecDepth 100000 in
theorem c_J7_fill_fda19 (l : Launch) (D : va_G) (cI cG : ClassId) (tt : Nat × Nat × Nat) (sz : Nat) (ad : Nat) (n : Nat) (f : Nat → Int32) (a : Nat) (b : Nat) (x : Int32) (h1 : a ≤ b) (h2 : b ≤ n) (hn : n < 2 ^ 31) : Met l yJ7_fill_fda19 wsJ7_fill_fda19 ({ frames := 1, cells := 0, slots := 0, locals := 22 }) (PC D cI cG tt [.ref ad, .int (nI a), .int (nI b), .int x] [(ad, .inl (cI, n, .inl f))] sz) (QV (fun (u : (Nat → Int32)) => match u with | g => (∀ j, g j = if a ≤ j ∧ j < b then x else f j)) (fun (u : (Nat → Int32)) => match u with | g => [(ad, .inl (cI, n, .inl g))]) D (va_A [(ad, .inl (cI, n, .inl f))] sz)) 0 0 (va_A [(ad, .inl (cI, n, .inl f))] sz) := by
  refine ct_of (y := yJ7_fill_fda19) (cc := cJ7_fill_fda19) (maxL := 5) (ret := none) (Qf := QV (fun (u : (Nat → Int32)) => match u with | g => (∀ j, g j = if a ≤ j ∧ j < b then x else f j)) (fun (u : (Nat → Int32)) => match u with | g => [(ad, .inl (cI, n, .inl g))]) D) (by decide) rfl ?_
  intro p e s m args below meth c A Q R H locs hR hQ hx hb hml hr hts hown hlocks hin hP hD hE hT hA hS
  have hK := hE.1
  have hl := lv_entry ([.ref ad, .int (nI a), .int (nI b), .int x]) (n := 5) (Nat.le_of_ble_eq_true rfl)
  rw [lg_entry_eq]
  generalize (lg_sl ([.ref ad, .int (nI a), .int (nI b), .int x]) ++ List.replicate (5 - (lg_sl ([.ref ad, .int (nI a), .int (nI b), .int x])).length) Slot.unset).toArray = ls at hl ⊢
  have hl : lv_has ls 5 [(0, .ref ad), (1, .int (nI a)), (2, .int (nI b)), (3, .int x)] := hl
  refine lv_aload_n hx hb dJ7_fill_fda19_0 rfl (lv_at hl 0 rfl) ?_
  refine va_alen hx hb hK hP 0 0 rfl rfl (v := nI n) rfl dJ7_fill_fda19_1 ?_
  refine lv_iload_n hx hb dJ7_fill_fda19_2 rfl (lv_at hl 1 rfl) ?_
  refine lv_iload_n hx hb dJ7_fill_fda19_3 rfl (lv_at hl 2 rfl) ?_
  refine ca_v (wr := [(ad, .inl (cI, n, .inl f))]) (ru_S (As := [.int (nI n), .int (nI a), .int (nI b)]) (rest := []) ⟨hx, hb, hml, hown, hts⟩ (c_J7_rangeCheck_23922 l D cI cG tt H.size a b n (by omega) (by omega) (by omega)) (va_cwS 3 hts gJ7_fill_fda19_J7_rangeCheck_23922 rfl rfl rfl (by decide +kernel) ⟨by rw [hR]; exact Nat.le_of_ble_eq_true rfl, by rw [hR]; exact Nat.le_of_ble_eq_true rfl⟩) hP hD hE hT hS hA [] rfl (by decide) rfl hl.1 rfl (Nat.le_of_ble_eq_true rfl) dJ7_fill_fda19_4 ⟨by rw [hR]; exact Nat.le_of_ble_eq_true rfl, by rw [hR]; exact Nat.le_of_ble_eq_true rfl⟩) hP hD hS hA [] [0] rfl rfl (by decide) (by decide) (fun u H locs hw hP hD hS => ?_)
  have hP : va_P D vwCl [(ad, .inl (cI, n, .inl f))] H := hP
  have hD : va_D A [(ad, .inl (cI, n, .inl f))] := hD
  refine lv_iload_n hx hb dJ7_fill_fda19_7 rfl (lv_at hl 1 rfl) ?_
  refine lv_istore (lv' := [(4, .int (nI a)), (0, .ref ad), (1, .int (nI a)), (2, .int (nI b)), (3, .int x)]) hx hb dJ7_fill_fda19_8 hl (by decide) rfl (fun ls hl => ?_)
  have L10 : ∀ (fu10 : Nat), ∀ (i : Nat) (g : Nat → Int32), (a ≤ i ∧ i ≤ b) → (∀ j, g j = if a ≤ j ∧ j < i then x else f j) → b - i < fu10 → ∀ (H : Heap) (locs : List Loc), va_P D vwCl [(ad, .inl (cI, n, .inl g))] H → va_D A [(ad, .inl (cI, n, .inl g))] → va_S A s.heap H locs → ∀ ls : Array Slot, lv_has ls 5 [(4, .int (nI i)), (0, .ref ad), (1, .int (nI a)), (2, .int (nI b)), (3, .int x)] → W p l e R s m args below meth c H locs 0 0 Q (F0 m 10 ls []) := by
    intro fu10
    induction fu10 with
    | zero => intro i g hi hg hm10; exact absurd hm10 (Nat.not_lt_zero _)
    | succ fu10 ih10 =>
      intro i g hi hg hm10 H locs hP hD hS ls hl
      refine lv_iload hx hb dJ7_fill_fda19_10 (lv_at hl 0 rfl) ?_
      refine lv_iload_n hx hb dJ7_fill_fda19_12 rfl (lv_at hl 3 rfl) ?_
      refine lv_icmp_ge (tgt := 27) hx hb dJ7_fill_fda19_13 (by decide) (fun c13 => ?_) (fun c13 => ?_)
      · skip
        have k13 : b ≤ i := (nI_leI (a := b) (b := i) (by omega) (by omega)).mp c13
        refine W_q hQ ?_
        exact rt_v g hx hb hr hlocks dJ7_fill_fda19_27 hS hP hD ((show i = b by omega) ▸ hg)
      · skip
        have k13 : ¬ b ≤ i := fun zq => c13 ((nI_leI (a := b) (b := i) (by omega) (by omega)).mpr zq)
        refine lv_aload_n hx hb dJ7_fill_fda19_16 rfl (lv_at hl 1 rfl) ?_
        refine lv_iload hx hb dJ7_fill_fda19_17 (lv_at hl 0 rfl) ?_
        refine lv_iload_n hx hb dJ7_fill_fda19_19 rfl (lv_at hl 4 rfl) ?_
        refine gs_i hx hb hK hP hD hS 0 rfl (i := i) (x := x) (by omega) (by first | decide | omega) dJ7_fill_fda19_20 (fun H locs hP hD hS => ?_)
        have hP : va_P D vwCl [(ad, .inl (cI, n, .inl (upd g i x)))] H := hP
        have hD : va_D A [(ad, .inl (cI, n, .inl (upd g i x)))] := hD
        refine lv_iinc (v := nI (i + 1)) (lv' := [(4, .int (nI (i + 1))), (0, .ref ad), (1, .int (nI a)), (2, .int (nI b)), (3, .int x)]) hx hb dJ7_fill_fda19_21 hl (k := 0) rfl (nI_add i 1) (by decide) rfl (fun ls hl => ?_)
        refine lv_goto (tgt := 10) hx hb dJ7_fill_fda19_24 (by decide) ?_
        exact ih10 (i + 1) (upd g i x) (⟨by omega, by omega⟩) (upd_rng hg hi.1) (by omega) _ _ hP hD hS _ (lv_sub hl [0, 1, 2, 3, 4] rfl)
  exact L10 _ a f (⟨Nat.le_refl _, h1⟩) (fun j => (if_neg (by omega)).symm) (Nat.lt_succ_self _) _ _ hP hD hS _ (lv_sub hl [0, 1, 2, 3, 4] rfl)

theorem inX5_init_X5 : ∀ w ∈ u_ws RX5 TX5 1, w ∈ wsX5_init := by decide +kernel
set_option maxHeartbeats 4000000 in
set_option maxRecDepth 100000 in
theorem c_X5_init (l : Launch) (D : va_G) (cI cG : ClassId) (tt : Nat × Nat × Nat) (sz : Nat) (h0 : Nat) (z : Int32) (x : Int32) : Met l yX5_init wsX5_init ({ frames := 1, cells := 0, slots := 0, locals := 12 }) (PC D cI cG tt [.ref h0, .int x] [(h0, .inr (5, [.int z]))] sz) (QV (fun (u : Unit) => True) (fun (u : Unit) => [(h0, .inr (5, [.int x]))]) D (va_A [(h0, .inr (5, [.int z]))] sz)) 0 0 (va_A [(h0, .inr (5, [.int z]))] sz) := by
  refine ct_of (y := yX5_init) (cc := cX5_init) (maxL := 2) (ret := none) (Qf := QV (fun (u : Unit) => True) (fun (u : Unit) => [(h0, .inr (5, [.int x]))]) D) (by decide) rfl ?_
  intro p e s m args below meth c A Q R H locs hR hQ hx hb hml hr hts hown hlocks hin hP hD hE hT hA hS
  have hK := hE.1
  have hl := lv_entry ([.ref h0, .int x]) (n := 2) (Nat.le_of_ble_eq_true rfl)
  rw [lg_entry_eq]
  generalize (lg_sl ([.ref h0, .int x]) ++ List.replicate (2 - (lg_sl ([.ref h0, .int x])).length) Slot.unset).toArray = ls at hl ⊢
  have hl : lv_has ls 2 [(0, .ref h0), (1, .int x)] := hl
  refine lv_aload_n hx hb dX5_init_0 rfl (lv_at hl 0 rfl) ?_
  refine W.objInit hx hb hown (hts (.methodLink RX5 1 objectInit) (by decide +kernel)) (hts (.instanceMethod objectInit) (by decide +kernel)) (hts (.code objectInit ⟨#[0xb1]⟩ 1 none) (by decide +kernel)) rfl (by rw [hml]; exact hl.1) rfl dX5_init_1 (by rw [hR]; exact Nat.le_of_ble_eq_true rfl) (by rw [hR]; exact Nat.le_of_ble_eq_true rfl) ?_
  refine W.eq (g2 := F0 m 4 ls []) rfl ?_
  refine lv_aload_n hx hb dX5_init_4 rfl (lv_at hl 0 rfl) ?_
  refine lv_iload_n hx hb dX5_init_5 rfl (lv_at hl 1 rfl) ?_
  refine va_put (D := D) (ci := 5) (v := .int x) (ty := .int) (C := RX5) (T := TX5) (N := 1) hx hb hts inX5_init_X5 tyX5 tyX5_ok nmX5 hown hK hP hD hS 0 rfl rfl 0 (by decide) (hts (.fieldLink RX5 7 "ScrambledLine$Scrambler" "bits" "I") (by decide +kernel)) (fun _ h9 => h9) rfl (by decide +kernel) rfl rfl (Nat.le_of_ble_eq_true rfl) dX5_init_6 (fun H locs hP hD hS => ?_)
  have hP : va_P D vwCl [(h0, .inr (5, [.int x]))] H := hP
  have hD : va_D A [(h0, .inr (5, [.int x]))] := hD
  refine W_q hQ ?_
  exact rt_v () hx hb hr hlocks dX5_init_9 hS hP hD trivial

theorem inX5_key_X5 : ∀ w ∈ u_ws RX5 TX5 1, w ∈ wsX5_key := by decide +kernel
set_option maxHeartbeats 4000000 in
set_option maxRecDepth 100000 in
theorem c_X5_key (l : Launch) (D : va_G) (cI cG : ClassId) (tt : Nat × Nat × Nat) (sz : Nat) (h0 : Nat) (b : Nat) (hb0 : b < 2048) : Met l yX5_key wsX5_key ({ frames := 0, cells := 0, slots := 0, locals := 0 }) (PC D cI cG tt [.ref h0] [(h0, .inr (5, [.int (nI b)]))] sz) (QI (fun (r : Int32) (u : Unit) => r = nI (kN b)) (fun (u : Unit) => [(h0, .inr (5, [.int (nI b)]))]) D (va_A [(h0, .inr (5, [.int (nI b)]))] sz)) 0 0 (va_A [(h0, .inr (5, [.int (nI b)]))] sz) := by
  refine ct_of (y := yX5_key) (cc := cX5_key) (maxL := 1) (ret := (some .int)) (Qf := QI (fun (r : Int32) (u : Unit) => r = nI (kN b)) (fun (u : Unit) => [(h0, .inr (5, [.int (nI b)]))]) D) (by decide) rfl ?_
  intro p e s m args below meth c A Q R H locs hR hQ hx hb hml hr hts hown hlocks hin hP hD hE hT hA hS
  have hK := hE.1
  have hl := lv_entry ([.ref h0]) (n := 1) (Nat.le_of_ble_eq_true rfl)
  rw [lg_entry_eq]
  generalize (lg_sl ([.ref h0]) ++ List.replicate (1 - (lg_sl ([.ref h0])).length) Slot.unset).toArray = ls at hl ⊢
  have hl : lv_has ls 1 [(0, .ref h0)] := hl
  refine lv_aload_n hx hb dX5_key_0 rfl (lv_at hl 0 rfl) ?_
  refine va_get (D := D) (ci := 5) (v := .int (nI b)) (C := RX5) (T := TX5) (N := 1) hx hb hts inX5_key_X5 hown hK hP 0 rfl rfl 0 (by decide) (hts (.fieldLink RX5 7 "ScrambledLine$Scrambler" "bits" "I") (by decide +kernel)) (fun _ h9 => h9) rfl dX5_key_1 ?_
  refine lv_bipush (v := nI 8) hx hb dX5_key_4 rfl ?_
  refine lv_iushr (v := nI (b / 256)) hx hb dX5_key_6 (pk_ushrN (n := b) (by omega) _ 8 rfl) ?_
  refine lv_aload_n hx hb dX5_key_7 rfl (lv_at hl 0 rfl) ?_
  refine va_get (D := D) (ci := 5) (v := .int (nI b)) (C := RX5) (T := TX5) (N := 1) hx hb hts inX5_key_X5 hown hK hP 0 rfl rfl 0 (by decide) (hts (.fieldLink RX5 7 "ScrambledLine$Scrambler" "bits" "I") (by decide +kernel)) (fun _ h9 => h9) rfl dX5_key_8 ?_
  refine lv_bipush (v := nI 10) hx hb dX5_key_11 rfl ?_
  refine lv_iushr (v := nI (b / 1024)) hx hb dX5_key_13 (pk_ushrN (n := b) (by omega) _ 10 rfl) ?_
  refine lv_ixor hx hb dX5_key_14 ?_
  refine lv_iconst (v := nI 1) hx hb dX5_key_15 rfl ?_
  refine lv_iand hx hb dX5_key_16 ?_
  refine lv_to (y := nI (kN b)) (key_c hb0) ?_
  refine W_q hQ ?_
  exact rt_i () hx hb hr hlocks dX5_key_17 hS hP hD rfl

theorem inX5_shiftIn_X5 : ∀ w ∈ u_ws RX5 TX5 1, w ∈ wsX5_shiftIn := by decide +kernel
set_option maxHeartbeats 4000000 in
set_option maxRecDepth 100000 in
theorem c_X5_shiftIn (l : Launch) (D : va_G) (cI cG : ClassId) (tt : Nat × Nat × Nat) (sz : Nat) (h0 : Nat) (b : Nat) (k : Nat) (hb0 : b < 2048) (hk : k < 2) : Met l yX5_shiftIn wsX5_shiftIn ({ frames := 0, cells := 0, slots := 0, locals := 0 }) (PC D cI cG tt [.ref h0, .int (nI k)] [(h0, .inr (5, [.int (nI b)]))] sz) (QV (fun (u : Unit) => True) (fun (u : Unit) => [(h0, .inr (5, [.int (nI (rN b k))]))]) D (va_A [(h0, .inr (5, [.int (nI b)]))] sz)) 0 0 (va_A [(h0, .inr (5, [.int (nI b)]))] sz) := by
  refine ct_of (y := yX5_shiftIn) (cc := cX5_shiftIn) (maxL := 2) (ret := none) (Qf := QV (fun (u : Unit) => True) (fun (u : Unit) => [(h0, .inr (5, [.int (nI (rN b k))]))]) D) (by decide) rfl ?_
  intro p e s m args below meth c A Q R H locs hR hQ hx hb hml hr hts hown hlocks hin hP hD hE hT hA hS
  have hK := hE.1
  have hl := lv_entry ([.ref h0, .int (nI k)]) (n := 2) (Nat.le_of_ble_eq_true rfl)
  rw [lg_entry_eq]
  generalize (lg_sl ([.ref h0, .int (nI k)]) ++ List.replicate (2 - (lg_sl ([.ref h0, .int (nI k)])).length) Slot.unset).toArray = ls at hl ⊢
  have hl : lv_has ls 2 [(0, .ref h0), (1, .int (nI k))] := hl
  refine lv_aload_n hx hb dX5_shiftIn_0 rfl (lv_at hl 0 rfl) ?_
  refine lv_iconst (v := nI 2) hx hb dX5_shiftIn_1 rfl ?_
  refine lv_aload_n hx hb dX5_shiftIn_2 rfl (lv_at hl 0 rfl) ?_
  refine va_get (D := D) (ci := 5) (v := .int (nI b)) (C := RX5) (T := TX5) (N := 1) hx hb hts inX5_shiftIn_X5 hown hK hP 0 rfl rfl 0 (by decide) (hts (.fieldLink RX5 7 "ScrambledLine$Scrambler" "bits" "I") (by decide +kernel)) (fun _ h9 => h9) rfl dX5_shiftIn_3 ?_
  refine lv_imul hx hb dX5_shiftIn_6 ?_
  refine lv_to (y := nI (2 * b)) (pk_mul 2 b) ?_
  refine lv_iload_n hx hb dX5_shiftIn_7 rfl (lv_at hl 1 rfl) ?_
  refine lv_iadd hx hb dX5_shiftIn_8 ?_
  refine lv_to (y := nI ((2 * b) + k)) (nI_add (2 * b) k) ?_
  refine lv_sipush (v := nI 2048) hx hb dX5_shiftIn_9 rfl ?_
  refine lv_irem hx hb dX5_shiftIn_12 (by decide) ?_
  refine lv_to (y := nI (rN b k)) (pk_rem (by omega) (by decide) (by decide)) ?_
  refine va_put (D := D) (ci := 5) (v := .int (nI (rN b k))) (ty := .int) (C := RX5) (T := TX5) (N := 1) hx hb hts inX5_shiftIn_X5 tyX5 tyX5_ok nmX5 hown hK hP hD hS 0 rfl rfl 0 (by decide) (hts (.fieldLink RX5 7 "ScrambledLine$Scrambler" "bits" "I") (by decide +kernel)) (fun _ h9 => h9) rfl (by decide +kernel) rfl rfl (Nat.le_of_ble_eq_true rfl) dX5_shiftIn_13 (fun H locs hP hD hS => ?_)
  have hP : va_P D vwCl [(h0, .inr (5, [.int (nI (rN b k))]))] H := hP
  have hD : va_D A [(h0, .inr (5, [.int (nI (rN b k))]))] := hD
  refine W_q hQ ?_
  exact rt_v () hx hb hr hlocks dX5_shiftIn_16 hS hP hD trivial

theorem inX0_init_X0 : ∀ w ∈ u_ws RX0 TX0 2, w ∈ wsX0_init := by decide +kernel
set_option maxHeartbeats 4000000 in
set_option maxRecDepth 100000 in
theorem c_X0_init (l : Launch) (D : va_G) (cI cG : ClassId) (tt : Nat × Nat × Nat) (sz : Nat) (h0 : Nat) : Met l yX0_init wsX0_init ({ frames := 1, cells := 1, slots := 100, locals := 23 }) (PC D cI cG tt [.ref h0] [(h0, .inr (0, [.null, .int (nI 0)]))] sz) (QV (fun (u : Nat × (Nat → Int32)) => match u with | (q, f) => (∀ j, j < 100 → f j = nI 2)) (fun (u : Nat × (Nat → Int32)) => match u with | (q, f) => [(h0, .inr (0, [.ref q, .int (nI 0)])), (q, .inl (cI, 100, .inl f))]) D (va_A [(h0, .inr (0, [.null, .int (nI 0)]))] sz)) 1 100 (va_A [(h0, .inr (0, [.null, .int (nI 0)]))] sz) := by
  refine ct_of (y := yX0_init) (cc := cX0_init) (maxL := 1) (ret := none) (Qf := QV (fun (u : Nat × (Nat → Int32)) => match u with | (q, f) => (∀ j, j < 100 → f j = nI 2)) (fun (u : Nat × (Nat → Int32)) => match u with | (q, f) => [(h0, .inr (0, [.ref q, .int (nI 0)])), (q, .inl (cI, 100, .inl f))]) D) (by decide) rfl ?_
  intro p e s m args below meth c A Q R H locs hR hQ hx hb hml hr hts hown hlocks hin hP hD hE hT hA hS
  have hK := hE.1
  have hl := lv_entry ([.ref h0]) (n := 1) (Nat.le_of_ble_eq_true rfl)
  rw [lg_entry_eq]
  generalize (lg_sl ([.ref h0]) ++ List.replicate (1 - (lg_sl ([.ref h0])).length) Slot.unset).toArray = ls at hl ⊢
  have hl : lv_has ls 1 [(0, .ref h0)] := hl
  refine lv_aload_n hx hb dX0_init_0 rfl (lv_at hl 0 rfl) ?_
  refine W.objInit hx hb hown (hts (.methodLink RX0 1 objectInit) (by decide +kernel)) (hts (.instanceMethod objectInit) (by decide +kernel)) (hts (.code objectInit ⟨#[0xb1]⟩ 1 none) (by decide +kernel)) rfl (by rw [hml]; exact hl.1) rfl dX0_init_1 (by rw [hR]; exact Nat.le_of_ble_eq_true rfl) (by rw [hR]; exact Nat.le_of_ble_eq_true rfl) ?_
  refine W.eq (g2 := F0 m 4 ls []) rfl ?_
  refine lv_aload_n hx hb dX0_init_4 rfl (lv_at hl 0 rfl) ?_
  refine lv_bipush (v := nI 100) hx hb dX0_init_5 rfl ?_
  refine nw_i (N := 100) hx hb (hts (.arrayClass .int) (by decide +kernel)) hK hP hD hS hA (by decide) (by decide) (by rw [hR]; exact Nat.le_of_ble_eq_true rfl) (by rw [hR]; exact Nat.le_of_ble_eq_true rfl) dX0_init_7 (fun q7 H hP hD hS => ?_)
  have hP : va_P D vwCl [(h0, .inr (0, [.null, .int (nI 0)])), (q7, .inl (cI, 100, .inl (fun _ => 0)))] H := hP
  have hD : va_D A [(h0, .inr (0, [.null, .int (nI 0)])), (q7, .inl (cI, 100, .inl (fun _ => 0)))] := hD
  refine va_putF (D := D) (ci := 0) (v := .ref q7) (ty := (.array .int)) (C := RX0) (T := TX0) (N := 2) hx hb hts inX0_init_X0 tyX0 tyX0_ok nmX0 hown hK hP hD hS 0 rfl rfl 0 (by decide) (hts (.fieldLink RX0 9 "ScrambledLine$Hits" "levels" "[I") (by decide +kernel)) (fun _ h9 => h9) rfl hin rfl (by decide +kernel) rfl rfl (Nat.le_of_ble_eq_true rfl) dX0_init_9 (fun H locs hP hD hS => ?_)
  have hP : va_P D vwCl [(h0, .inr (0, [.ref q7, .int (nI 0)])), (q7, .inl (cI, 100, .inl (fun _ => 0)))] H := hP
  have hD : va_D A [(h0, .inr (0, [.ref q7, .int (nI 0)])), (q7, .inl (cI, 100, .inl (fun _ => 0)))] := hD
  refine lv_aload_n hx hb dX0_init_12 rfl (lv_at hl 0 rfl) ?_
  refine lv_iconst (v := nI 0) hx hb dX0_init_13 rfl ?_
  refine va_put (D := D) (ci := 0) (v := .int (nI 0)) (ty := .int) (C := RX0) (T := TX0) (N := 2) hx hb hts inX0_init_X0 tyX0 tyX0_ok nmX0 hown hK hP hD hS 0 rfl rfl 1 (by decide) (hts (.fieldLink RX0 13 "ScrambledLine$Hits" "next" "I") (by decide +kernel)) (fun _ h9 => h9) rfl (by decide +kernel) rfl rfl (Nat.le_of_ble_eq_true rfl) dX0_init_14 (fun H locs hP hD hS => ?_)
  have hP : va_P D vwCl [(h0, .inr (0, [.ref q7, .int (nI 0)])), (q7, .inl (cI, 100, .inl (fun _ => 0)))] H := hP
  have hD : va_D A [(h0, .inr (0, [.ref q7, .int (nI 0)])), (q7, .inl (cI, 100, .inl (fun _ => 0)))] := hD
  refine lv_aload_n hx hb dX0_init_17 rfl (lv_at hl 0 rfl) ?_
  refine va_get (D := D) (ci := 0) (v := .ref q7) (C := RX0) (T := TX0) (N := 2) hx hb hts inX0_init_X0 hown hK hP 0 rfl rfl 0 (by decide) (hts (.fieldLink RX0 9 "ScrambledLine$Hits" "levels" "[I") (by decide +kernel)) (fun _ h9 => h9) rfl dX0_init_18 ?_
  refine lv_iconst (v := nI 2) hx hb dX0_init_21 rfl ?_
  refine ca_v (wr := [(h0, .inr (0, [.ref q7, .int (nI 0)]))]) (ru_S (As := [.ref q7, .int (nI 2)]) (rest := []) ⟨hx, hb, hml, hown, hts⟩ (c_J7_fill_53178 l D cI cG tt H.size q7 100 (fun _ => 0) (nI 2) (by omega)) (va_cwS 2 hts gX0_init_J7_fill_53178 rfl rfl rfl (by decide +kernel) ⟨by rw [hR]; exact Nat.le_of_ble_eq_true rfl, by rw [hR]; exact Nat.le_of_ble_eq_true rfl⟩) hP hD hE hT hS hA [1] rfl (by decide) rfl hl.1 rfl (Nat.le_of_ble_eq_true rfl) dX0_init_22 ⟨by rw [hR]; exact Nat.le_of_ble_eq_true rfl, by rw [hR]; exact Nat.le_of_ble_eq_true rfl⟩) hP hD hS hA [1] [0] rfl rfl (by decide) (by decide) (fun u H locs hw hP hD hS => ?_)
  obtain ⟨g_22, rfl⟩ : ∃ z, z = u := ⟨_, rfl⟩
  have hg_22 := hw
  have hP : va_P D vwCl [(h0, .inr (0, [.ref q7, .int (nI 0)])), (q7, .inl (cI, 100, .inl g_22))] H := hP
  have hD : va_D A [(h0, .inr (0, [.ref q7, .int (nI 0)])), (q7, .inl (cI, 100, .inl g_22))] := hD
  refine W_q hQ ?_
  exact rt_v (q7, g_22) hx hb hr hlocks dX0_init_25 hS hP hD hg_22

theorem inX0_place_X0 : ∀ w ∈ u_ws RX0 TX0 2, w ∈ wsX0_place := by decide +kernel
set_option maxHeartbeats 4000000 in
set_option maxRecDepth 100000 in
theorem c_X0_place (l : Launch) (D : va_G) (cI cG : ClassId) (tt : Nat × Nat × Nat) (sz : Nat) (h0 : Nat) (q : Nat) (f : Nat → Int32) (nx : Nat) (k : Int32) (v : Int32) (hn : nx < 100) : Met l yX0_place wsX0_place ({ frames := 0, cells := 0, slots := 0, locals := 0 }) (PC D cI cG tt [.ref h0, .int k, .int v] [(h0, .inr (0, [.ref q, .int (nI nx)])), (q, .inl (cI, 100, .inl f))] sz) (QI (fun (r : Int32) (u : (Nat → Int32)) => match u with | g => r = bI (okH k v) ∧ (g = if okH k v = true then upd f ((nx + k.toNatClampNeg - 1) % 100) v else f)) (fun (u : (Nat → Int32)) => match u with | g => [(h0, .inr (0, [.ref q, .int (nI nx)])), (q, .inl (cI, 100, .inl g))]) D (va_A [(h0, .inr (0, [.ref q, .int (nI nx)])), (q, .inl (cI, 100, .inl f))] sz)) 0 0 (va_A [(h0, .inr (0, [.ref q, .int (nI nx)])), (q, .inl (cI, 100, .inl f))] sz) := by
  refine ct_of (y := yX0_place) (cc := cX0_place) (maxL := 3) (ret := (some .boolean)) (Qf := QI (fun (r : Int32) (u : (Nat → Int32)) => match u with | g => r = bI (okH k v) ∧ (g = if okH k v = true then upd f ((nx + k.toNatClampNeg - 1) % 100) v else f)) (fun (u : (Nat → Int32)) => match u with | g => [(h0, .inr (0, [.ref q, .int (nI nx)])), (q, .inl (cI, 100, .inl g))]) D) (by decide) rfl ?_
  intro p e s m args below meth c A Q R H locs hR hQ hx hb hml hr hts hown hlocks hin hP hD hE hT hA hS
  have hK := hE.1
  have hl := lv_entry ([.ref h0, .int k, .int v]) (n := 3) (Nat.le_of_ble_eq_true rfl)
  rw [lg_entry_eq]
  generalize (lg_sl ([.ref h0, .int k, .int v]) ++ List.replicate (3 - (lg_sl ([.ref h0, .int k, .int v])).length) Slot.unset).toArray = ls at hl ⊢
  have hl : lv_has ls 3 [(0, .ref h0), (1, .int k), (2, .int v)] := hl
  refine lv_iload_n hx hb dX0_place_0 rfl (lv_at hl 1 rfl) ?_
  refine lv_iconst (v := nI 1) hx hb dX0_place_1 rfl ?_
  refine lv_icmp_lt (tgt := 21) hx hb dX0_place_2 (by decide) (fun c2 => ?_) (fun c2 => ?_)
  · skip
    have hno : okH k v = false := okH_1 c2
    refine lv_iconst (v := nI 0) hx hb dX0_place_21 rfl ?_
    refine W_q hQ ?_
    exact rt_z f hx hb hr hlocks dX0_place_22 hS hP hD (⟨by rw [hno]; rfl, by rw [hno]; rfl⟩) rfl
  · skip
    refine lv_iload_n hx hb dX0_place_5 rfl (lv_at hl 1 rfl) ?_
    refine lv_bipush (v := nI 100) hx hb dX0_place_6 rfl ?_
    refine lv_icmp_gt (tgt := 21) hx hb dX0_place_8 (by decide) (fun c8 => ?_) (fun c8 => ?_)
    · skip
      have hno : okH k v = false := okH_2 c8
      refine lv_iconst (v := nI 0) hx hb dX0_place_21 rfl ?_
      refine W_q hQ ?_
      exact rt_z f hx hb hr hlocks dX0_place_22 hS hP hD (⟨by rw [hno]; rfl, by rw [hno]; rfl⟩) rfl
    · skip
      refine lv_iload_n hx hb dX0_place_11 rfl (lv_at hl 2 rfl) ?_
      refine lv_iconst (v := (-1)) hx hb dX0_place_12 rfl ?_
      refine lv_icmp_lt (tgt := 21) hx hb dX0_place_13 (by decide) (fun c13 => ?_) (fun c13 => ?_)
      · skip
        have hno : okH k v = false := okH_3 c13
        refine lv_iconst (v := nI 0) hx hb dX0_place_21 rfl ?_
        refine W_q hQ ?_
        exact rt_z f hx hb hr hlocks dX0_place_22 hS hP hD (⟨by rw [hno]; rfl, by rw [hno]; rfl⟩) rfl
      · skip
        refine lv_iload_n hx hb dX0_place_16 rfl (lv_at hl 2 rfl) ?_
        refine lv_iconst (v := nI 1) hx hb dX0_place_17 rfl ?_
        refine lv_icmp_le (tgt := 23) hx hb dX0_place_18 (by decide) (fun c18 => ?_) (fun c18 => ?_)
        · skip
          have hyes : okH k v = true := okH_5 c2 c8 c13 c18
          obtain ⟨j, hj1, hj2, rfl⟩ := okH_j hyes
          refine lv_aload_n hx hb dX0_place_23 rfl (lv_at hl 0 rfl) ?_
          refine va_get (D := D) (ci := 0) (v := .ref q) (C := RX0) (T := TX0) (N := 2) hx hb hts inX0_place_X0 hown hK hP 0 rfl rfl 0 (by decide) (hts (.fieldLink RX0 9 "ScrambledLine$Hits" "levels" "[I") (by decide +kernel)) (fun _ h9 => h9) rfl dX0_place_24 ?_
          refine lv_aload_n hx hb dX0_place_27 rfl (lv_at hl 0 rfl) ?_
          refine va_get (D := D) (ci := 0) (v := .int (nI nx)) (C := RX0) (T := TX0) (N := 2) hx hb hts inX0_place_X0 hown hK hP 0 rfl rfl 1 (by decide) (hts (.fieldLink RX0 13 "ScrambledLine$Hits" "next" "I") (by decide +kernel)) (fun _ h9 => h9) rfl dX0_place_28 ?_
          refine lv_iload_n hx hb dX0_place_31 rfl (lv_at hl 1 rfl) ?_
          refine lv_iadd hx hb dX0_place_32 ?_
          refine lv_to (y := nI (nx + j)) (nI_add nx j) ?_
          refine lv_iconst (v := nI 1) hx hb dX0_place_33 rfl ?_
          refine lv_isub hx hb dX0_place_34 ?_
          refine lv_to (y := nI (nx + j - 1)) (pk_sub (a := nx + j) (b := 1) (by omega)) ?_
          refine lv_bipush (v := nI 100) hx hb dX0_place_35 rfl ?_
          refine lv_irem hx hb dX0_place_37 (by decide) ?_
          refine lv_to (y := nI ((nx + j - 1) % 100)) (pk_rem (by omega) (by decide) (by decide)) ?_
          refine lv_iload_n hx hb dX0_place_38 rfl (lv_at hl 2 rfl) ?_
          refine gs_i hx hb hK hP hD hS 1 rfl (i := ((nx + j - 1) % 100)) (x := v) (by omega) (by first | decide | omega) dX0_place_39 (fun H locs hP hD hS => ?_)
          have hP : va_P D vwCl [(h0, .inr (0, [.ref q, .int (nI nx)])), (q, .inl (cI, 100, .inl (upd f ((nx + j - 1) % 100) v)))] H := hP
          have hD : va_D A [(h0, .inr (0, [.ref q, .int (nI nx)])), (q, .inl (cI, 100, .inl (upd f ((nx + j - 1) % 100) v)))] := hD
          refine lv_iconst (v := nI 1) hx hb dX0_place_40 rfl ?_
          refine W_q hQ ?_
          exact rt_z (upd f ((nx + j - 1) % 100) v) hx hb hr hlocks dX0_place_41 hS hP hD (⟨by rw [hyes]; rfl, by rw [if_pos hyes, nI_clamp (by omega)]⟩) rfl
        · skip
          have hno : okH k v = false := okH_4 c18
          refine lv_iconst (v := nI 0) hx hb dX0_place_21 rfl ?_
          refine W_q hQ ?_
          exact rt_z f hx hb hr hlocks dX0_place_22 hS hP hD (⟨by rw [hno]; rfl, by rw [hno]; rfl⟩) rfl

theorem inX0_passOn_X0 : ∀ w ∈ u_ws RX0 TX0 2, w ∈ wsX0_passOn := by decide +kernel
set_option maxHeartbeats 4000000 in
set_option maxRecDepth 100000 in
theorem c_X0_passOn (l : Launch) (D : va_G) (cI cG : ClassId) (tt : Nat × Nat × Nat) (sz : Nat) (h0 : Nat) (q : Nat) (f : Nat → Int32) (nx : Nat) (x : Int32) (hn : nx < 100) : Met l yX0_passOn wsX0_passOn ({ frames := 0, cells := 0, slots := 0, locals := 0 }) (PC D cI cG tt [.ref h0, .int x] [(h0, .inr (0, [.ref q, .int (nI nx)])), (q, .inl (cI, 100, .inl f))] sz) (QI (fun (r : Int32) (u : Unit) => (r = if f nx = nI 2 then x else f nx)) (fun (u : Unit) => [(h0, .inr (0, [.ref q, .int (nI ((nx + 1) % 100))])), (q, .inl (cI, 100, .inl (upd f nx (nI 2))))]) D (va_A [(h0, .inr (0, [.ref q, .int (nI nx)])), (q, .inl (cI, 100, .inl f))] sz)) 0 0 (va_A [(h0, .inr (0, [.ref q, .int (nI nx)])), (q, .inl (cI, 100, .inl f))] sz) := by
  refine ct_of (y := yX0_passOn) (cc := cX0_passOn) (maxL := 3) (ret := (some .int)) (Qf := QI (fun (r : Int32) (u : Unit) => (r = if f nx = nI 2 then x else f nx)) (fun (u : Unit) => [(h0, .inr (0, [.ref q, .int (nI ((nx + 1) % 100))])), (q, .inl (cI, 100, .inl (upd f nx (nI 2))))]) D) (by decide) rfl ?_
  intro p e s m args below meth c A Q R H locs hR hQ hx hb hml hr hts hown hlocks hin hP hD hE hT hA hS
  have hK := hE.1
  have hl := lv_entry ([.ref h0, .int x]) (n := 3) (Nat.le_of_ble_eq_true rfl)
  rw [lg_entry_eq]
  generalize (lg_sl ([.ref h0, .int x]) ++ List.replicate (3 - (lg_sl ([.ref h0, .int x])).length) Slot.unset).toArray = ls at hl ⊢
  have hl : lv_has ls 3 [(0, .ref h0), (1, .int x)] := hl
  refine lv_aload_n hx hb dX0_passOn_0 rfl (lv_at hl 0 rfl) ?_
  refine va_get (D := D) (ci := 0) (v := .ref q) (C := RX0) (T := TX0) (N := 2) hx hb hts inX0_passOn_X0 hown hK hP 0 rfl rfl 0 (by decide) (hts (.fieldLink RX0 9 "ScrambledLine$Hits" "levels" "[I") (by decide +kernel)) (fun _ h9 => h9) rfl dX0_passOn_1 ?_
  refine lv_aload_n hx hb dX0_passOn_4 rfl (lv_at hl 0 rfl) ?_
  refine va_get (D := D) (ci := 0) (v := .int (nI nx)) (C := RX0) (T := TX0) (N := 2) hx hb hts inX0_passOn_X0 hown hK hP 0 rfl rfl 1 (by decide) (hts (.fieldLink RX0 13 "ScrambledLine$Hits" "next" "I") (by decide +kernel)) (fun _ h9 => h9) rfl dX0_passOn_5 ?_
  refine gl_i hx hb hK hP 1 rfl (i := nx) (by omega) (by first | decide | omega) dX0_passOn_8 ?_
  refine lv_istore_n (lv' := [(2, .int (f nx)), (0, .ref h0), (1, .int x)]) hx hb dX0_passOn_9 rfl hl (by decide) rfl (fun ls hl => ?_)
  refine lv_aload_n hx hb dX0_passOn_10 rfl (lv_at hl 1 rfl) ?_
  refine va_get (D := D) (ci := 0) (v := .ref q) (C := RX0) (T := TX0) (N := 2) hx hb hts inX0_passOn_X0 hown hK hP 0 rfl rfl 0 (by decide) (hts (.fieldLink RX0 9 "ScrambledLine$Hits" "levels" "[I") (by decide +kernel)) (fun _ h9 => h9) rfl dX0_passOn_11 ?_
  refine lv_aload_n hx hb dX0_passOn_14 rfl (lv_at hl 1 rfl) ?_
  refine va_get (D := D) (ci := 0) (v := .int (nI nx)) (C := RX0) (T := TX0) (N := 2) hx hb hts inX0_passOn_X0 hown hK hP 0 rfl rfl 1 (by decide) (hts (.fieldLink RX0 13 "ScrambledLine$Hits" "next" "I") (by decide +kernel)) (fun _ h9 => h9) rfl dX0_passOn_15 ?_
  refine lv_iconst (v := nI 2) hx hb dX0_passOn_18 rfl ?_
  refine gs_i hx hb hK hP hD hS 1 rfl (i := nx) (x := nI 2) (by omega) (by first | decide | omega) dX0_passOn_19 (fun H locs hP hD hS => ?_)
  have hP : va_P D vwCl [(h0, .inr (0, [.ref q, .int (nI nx)])), (q, .inl (cI, 100, .inl (upd f nx (nI 2))))] H := hP
  have hD : va_D A [(h0, .inr (0, [.ref q, .int (nI nx)])), (q, .inl (cI, 100, .inl (upd f nx (nI 2))))] := hD
  refine lv_aload_n hx hb dX0_passOn_20 rfl (lv_at hl 1 rfl) ?_
  refine lv_aload_n hx hb dX0_passOn_21 rfl (lv_at hl 1 rfl) ?_
  refine va_get (D := D) (ci := 0) (v := .int (nI nx)) (C := RX0) (T := TX0) (N := 2) hx hb hts inX0_passOn_X0 hown hK hP 0 rfl rfl 1 (by decide) (hts (.fieldLink RX0 13 "ScrambledLine$Hits" "next" "I") (by decide +kernel)) (fun _ h9 => h9) rfl dX0_passOn_22 ?_
  refine lv_iconst (v := nI 1) hx hb dX0_passOn_25 rfl ?_
  refine lv_iadd hx hb dX0_passOn_26 ?_
  refine lv_to (y := nI (nx + 1)) (nI_add nx 1) ?_
  refine lv_bipush (v := nI 100) hx hb dX0_passOn_27 rfl ?_
  refine lv_irem hx hb dX0_passOn_29 (by decide) ?_
  refine lv_to (y := nI ((nx + 1) % 100)) (pk_rem (by omega) (by decide) (by decide)) ?_
  refine va_put (D := D) (ci := 0) (v := .int (nI ((nx + 1) % 100))) (ty := .int) (C := RX0) (T := TX0) (N := 2) hx hb hts inX0_passOn_X0 tyX0 tyX0_ok nmX0 hown hK hP hD hS 0 rfl rfl 1 (by decide) (hts (.fieldLink RX0 13 "ScrambledLine$Hits" "next" "I") (by decide +kernel)) (fun _ h9 => h9) rfl (by decide +kernel) rfl rfl (Nat.le_of_ble_eq_true rfl) dX0_passOn_30 (fun H locs hP hD hS => ?_)
  have hP : va_P D vwCl [(h0, .inr (0, [.ref q, .int (nI ((nx + 1) % 100))])), (q, .inl (cI, 100, .inl (upd f nx (nI 2))))] H := hP
  have hD : va_D A [(h0, .inr (0, [.ref q, .int (nI ((nx + 1) % 100))])), (q, .inl (cI, 100, .inl (upd f nx (nI 2))))] := hD
  refine lv_iload_n hx hb dX0_passOn_33 rfl (lv_at hl 0 rfl) ?_
  refine lv_iconst (v := nI 2) hx hb dX0_passOn_34 rfl ?_
  refine lv_icmp_ne (tgt := 42) hx hb dX0_passOn_35 (by decide) (fun c35 => ?_) (fun c35 => ?_)
  · skip
    
    refine lv_iload_n hx hb dX0_passOn_42 rfl (lv_at hl 0 rfl) ?_
    refine W_q hQ ?_
    exact rt_i () hx hb hr hlocks dX0_passOn_43 hS hP hD ((if_neg c35).symm)
  · skip
    
    refine lv_iload_n hx hb dX0_passOn_38 rfl (lv_at hl 2 rfl) ?_
    refine lv_goto (tgt := 43) hx hb dX0_passOn_39 (by decide) ?_
    refine W_q hQ ?_
    exact rt_i () hx hb hr hlocks dX0_passOn_43 hS hP hD ((if_pos c35).symm)
