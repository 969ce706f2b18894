/-- the level at a place of the round -/
def lvI (la : Nat) : Int32 := tabL.getD la 0
/-- the first k groups of a frame are laid -/
def GR (Bf : Nat → Nat) (len : Nat) (gf : Nat → Int32) (k : Nat) : Prop := ∀ j, j < k → gf j = nI (fg Bf len j)
theorem GR_0 {Bf : Nat → Nat} {len : Nat} {gf : Nat → Int32} : GR Bf len gf 0 := fun _ h => absurd h (Nat.not_lt_zero _)
theorem GR_s {Bf : Nat → Nat} {len k : Nat} {gf : Nat → Int32} {x : Int32} (h : GR Bf len gf k) (hx : x = nI (fg Bf len k)) : GR Bf len (upd gf k x) (k + 1) := fun j hj => by
  by_cases e : j = k
  · subst e; rw [pk_us]; exact hx
  · rw [pk_un e]; exact h j (by omega)
theorem fg_lead {Bf : Nat → Nat} {len j : Nat} (h1 : 2 ≤ j) (h2 : j < 5) : fg Bf len j = 11 := by
  unfold fg
  rw [if_neg (by omega), if_neg (by omega), if_pos h2]
theorem fg_even {Bf : Nat → Nat} {len i : Nat} (h : i < len) : fg Bf len (6 + 2 * i) = gN (Bf i % 16) := by
  unfold fg
  rw [if_neg (by omega), if_neg (by omega), if_neg (by omega), if_neg (by omega), if_pos (by omega), if_pos (by omega), show (6 + 2 * i - 6) / 2 = i by omega]
theorem fg_odd {Bf : Nat → Nat} {len i : Nat} (h : i < len) : fg Bf len (6 + 2 * i + 1) = gN (Bf i / 16) := by
  unfold fg
  rw [if_neg (by omega), if_neg (by omega), if_neg (by omega), if_neg (by omega), if_pos (by omega), if_neg (by omega), show (6 + 2 * i + 1 - 6) / 2 = i by omega]
theorem fg_T {Bf : Nat → Nat} {len : Nat} : fg Bf len (6 + 2 * len) = 13 := by
  unfold fg
  rw [if_neg (by omega), if_neg (by omega), if_neg (by omega), if_neg (by omega), if_neg (by omega), if_pos rfl]
theorem fg_R {Bf : Nat → Nat} {len : Nat} : fg Bf len (6 + 2 * len + 1) = 7 := by
  unfold fg
  rw [if_neg (by omega), if_neg (by omega), if_neg (by omega), if_neg (by omega), if_neg (by omega), if_neg (by omega)]
theorem GR_l {Bf : Nat → Nat} {len i cnt : Nat} {gf : Nat → Int32} (hc : cnt = 2 + i) (hi : i < 3) (h : GR Bf len gf (2 + i)) : GR Bf len (upd gf cnt (nI 11)) (2 + (i + 1)) := by
  subst hc
  exact GR_s h (by rw [fg_lead (by omega) (by omega)])
theorem GR_5 {Bf : Nat → Nat} {len i cnt : Nat} {gf : Nat → Int32} (hc : cnt = 5) (hi : i = 3) (h : GR Bf len gf (2 + i)) : GR Bf len (upd gf cnt (nI 27)) (6 + 2 * 0) := by
  subst hc; subst hi
  exact GR_s h (by unfold fg; rw [if_neg (by omega), if_neg (by omega), if_neg (by omega), if_pos rfl])
theorem GR_b {Bf : Nat → Nat} {len i cnt : Nat} {gf : Nat → Int32} (hc : cnt = 6 + 2 * i) (hi : i < len) (hb : Bf i < 256) (h : GR Bf len gf (6 + 2 * i)) : GR Bf len (upd (upd gf cnt (nI (gN (Bf i % 16)))) (cnt + 1) (nI (gN (Bf i / 16 % 16)))) (6 + 2 * (i + 1)) := by
  subst hc
  have e : 6 + 2 * (i + 1) = 6 + 2 * i + 1 + 1 := by omega
  rw [e]
  exact GR_s (GR_s h (by rw [fg_even hi])) (by rw [fg_odd hi, Nat.mod_eq_of_lt (show Bf i / 16 < 16 by omega)])
theorem GR_e {Bf : Nat → Nat} {len i cnt : Nat} {gf : Nat → Int32} (hc : cnt = 6 + 2 * len) (hi : i = len) (h : GR Bf len gf (6 + 2 * i)) : GR Bf len (upd (upd gf cnt (nI 13)) (cnt + 1) (nI 7)) (2 * len + 8) := by
  subst hc; subst hi
  have e : 2 * i + 8 = 6 + 2 * i + 1 + 1 := by omega
  rw [e]
  exact GR_s (GR_s h (by rw [fg_T])) (by rw [fg_R])
/-- the queue's numbers are as they must be -/
def QW (ql : Nat) (q : Nat → Nat) : Prop := ∀ j, j < ql → q (32 * j) < 256 ∧ q (32 * j + 1) ≤ 24 ∧ ∀ i, i < q (32 * j + 1) → q (32 * j + 2 + i) < 256
theorem fb_lt {src t n : Nat} {d : Nat → Nat} (hs : src < 256) (ht : t < 256) (hn : n ≤ 24) (hd : ∀ i, i < n → d i < 256) (i : Nat) : fb src t n d i < 256 := by
  unfold fb
  split
  · unfold bd
    split
    · exact ht
    · split
      · exact hs
      · split
        · omega
        · split
          · exact hd _ (by omega)
          · decide
  · exact Nat.mod_lt _ (by decide)
theorem qB_lt {src j ql : Nat} {q : Nat → Nat} (hs : src < 256) (hW : QW ql q) (hj : j < ql) (i : Nat) : qB src q j i < 256 := fb_lt hs (hW j hj).1 (hW j hj).2.1 (hW j hj).2.2 i
theorem Qrow {src ff fc k : Nat} {q : Nat → Nat} {Rw : Nat → Nat → Int32} (hQ : QRel src ff fc q Rw) (hW : QW fc q) (hf : 0 < fc) (hs : src < 256) (hk : ff = k) (hk4 : k < 4 := by decide) : ∀ i, i < fsz (q 1) + 4 → Rw k i = nI (qB src q 0 i) ∧ qB src q 0 i < 256 := by
  intro i hi
  subst hk
  have h := hQ 0 hf i hi
  rw [show (ff + 0) % 4 = ff by omega] at h
  exact ⟨h, qB_lt hs hW hf i⟩
theorem qB_2 {src : Nat} {q : Nat → Nat} (h : q 1 ≤ 24) : qB src q 0 2 = q 1 := by
  unfold qB fb
  rw [if_pos (show 2 < fsz (q (32 * 0 + 1)) by unfold fsz; omega)]
  rfl
theorem sb_sh {g k : Nat} (hg : g < 32) (hk : k < 5) : ((nI g).toUInt32 >>> ((nI k).toUInt32 &&& Int32.toUInt32 31)).toInt32 &&& nI 1 = nI (g / 2 ^ k % 2) := by
  rw [pk_ushrN (n := g) (by omega) _ k (by rcases (show k = 0 ∨ k = 1 ∨ k = 2 ∨ k = 3 ∨ k = 4 by omega) with rfl | rfl | rfl | rfl | rfl <;> decide)]
  exact pk_andN (Nat.lt_of_le_of_lt (Nat.div_le_self _ _) (by omega)) 1 rfl
theorem inX6_addGroup_X6 : ∀ w ∈ u_ws RX6 TX6 10, w ∈ wsX6_addGroup := by decide +kernel
set_option maxHeartbeats 4000000 in
set_option maxRecDepth 100000 in
theorem c_X6_addGroup (l : Launch) (D : va_G) (cI cG : ClassId) (tt : Nat × Nat × Nat) (sz : Nat) (h0 : Nat) (ob : Nat) (sc : Nat) (gr : Nat) (gc : Nat) (gn : Int32) (inf : Int32) (idl : Int32) (g : Int32) (bl : Int32) (la : Int32) (gf : Nat → Int32) (x : Int32) (hc : gc < 70) : Met l yX6_addGroup wsX6_addGroup ({ frames := 0, cells := 0, slots := 0, locals := 0 }) (PC D cI cG tt [.ref h0, .int x] [(h0, .inr (6, [.ref ob, .ref sc, .ref gr, .int (nI gc), .int gn, .int inf, .int idl, .int g, .int bl, .int la])), (gr, .inl (cI, 70, .inl gf))] sz) (QV (fun (u : Unit) => True) (fun (u : Unit) => [(h0, .inr (6, [.ref ob, .ref sc, .ref gr, .int (nI (gc + 1)), .int gn, .int inf, .int idl, .int g, .int bl, .int la])), (gr, .inl (cI, 70, .inl (upd gf gc x)))]) D (va_A [(h0, .inr (6, [.ref ob, .ref sc, .ref gr, .int (nI gc), .int gn, .int inf, .int idl, .int g, .int bl, .int la])), (gr, .inl (cI, 70, .inl gf))] sz)) 0 0 (va_A [(h0, .inr (6, [.ref ob, .ref sc, .ref gr, .int (nI gc), .int gn, .int inf, .int idl, .int g, .int bl, .int la])), (gr, .inl (cI, 70, .inl gf))] sz) := by
  refine ct_of (y := yX6_addGroup) (cc := cX6_addGroup) (maxL := 2) (ret := none) (Qf := QV (fun (u : Unit) => True) (fun (u : Unit) => [(h0, .inr (6, [.ref ob, .ref sc, .ref gr, .int (nI (gc + 1)), .int gn, .int inf, .int idl, .int g, .int bl, .int la])), (gr, .inl (cI, 70, .inl (upd gf gc x)))]) D) (by decide) rfl ?_
  intro p e s m args below meth c A Q R H locs hR hQ hx hb hml hr hts hown hlocks hin hP hD hE hT hA hS
  have hK := hE.1
  have hl := lv_entry ([.ref h0, .int x]) (n := 2) (Nat.le_of_ble_eq_true rfl)
  rw [lg_entry_eq]
  generalize (lg_sl ([.ref h0, .int x]) ++ List.replicate (2 - (lg_sl ([.ref h0, .int x])).length) Slot.unset).toArray = ls at hl ⊢
  have hl : lv_has ls 2 [(0, .ref h0), (1, .int x)] := hl
  refine lv_aload_n hx hb dX6_addGroup_0 rfl (lv_at hl 0 rfl) ?_
  refine va_get (D := D) (ci := 6) (v := .int (nI gc)) (C := RX6) (T := TX6) (N := 10) hx hb hts inX6_addGroup_X6 hown hK hP 0 rfl rfl 3 (by decide) (hts (.fieldLink RX6 15 "ScrambledLine$Sender" "groupCount" "I") (by decide +kernel)) (fun _ h9 => h9) rfl dX6_addGroup_1 ?_
  refine lv_bipush (v := nI 70) hx hb dX6_addGroup_4 rfl ?_
  refine lv_icmp_ge (tgt := 29) hx hb dX6_addGroup_6 (by decide) (fun c6 => ?_) (fun c6 => ?_)
  · skip
    have k6 : 70 ≤ gc := (nI_leI (a := 70) (b := gc) (by omega) (by omega)).mp c6
    exact False.elim (by omega)
  · skip
    have k6 : ¬ 70 ≤ gc := fun zq => c6 ((nI_leI (a := 70) (b := gc) (by omega) (by omega)).mpr zq)
    refine lv_aload_n hx hb dX6_addGroup_9 rfl (lv_at hl 0 rfl) ?_
    refine va_get (D := D) (ci := 6) (v := .ref gr) (C := RX6) (T := TX6) (N := 10) hx hb hts inX6_addGroup_X6 hown hK hP 0 rfl rfl 2 (by decide) (hts (.fieldLink RX6 11 "ScrambledLine$Sender" "groups" "[I") (by decide +kernel)) (fun _ h9 => h9) rfl dX6_addGroup_10 ?_
    refine lv_aload_n hx hb dX6_addGroup_13 rfl (lv_at hl 0 rfl) ?_
    refine va_get (D := D) (ci := 6) (v := .int (nI gc)) (C := RX6) (T := TX6) (N := 10) hx hb hts inX6_addGroup_X6 hown hK hP 0 rfl rfl 3 (by decide) (hts (.fieldLink RX6 15 "ScrambledLine$Sender" "groupCount" "I") (by decide +kernel)) (fun _ h9 => h9) rfl dX6_addGroup_14 ?_
    refine lv_iload_n hx hb dX6_addGroup_17 rfl (lv_at hl 1 rfl) ?_
    refine gs_i hx hb hK hP hD hS 1 rfl (i := gc) (x := x) (by omega) (by first | decide | omega) dX6_addGroup_18 (fun H locs hP hD hS => ?_)
    have hP : va_P D vwCl [(h0, .inr (6, [.ref ob, .ref sc, .ref gr, .int (nI gc), .int gn, .int inf, .int idl, .int g, .int bl, .int la])), (gr, .inl (cI, 70, .inl (upd gf gc x)))] H := hP
    have hD : va_D A [(h0, .inr (6, [.ref ob, .ref sc, .ref gr, .int (nI gc), .int gn, .int inf, .int idl, .int g, .int bl, .int la])), (gr, .inl (cI, 70, .inl (upd gf gc x)))] := hD
    refine lv_aload_n hx hb dX6_addGroup_19 rfl (lv_at hl 0 rfl) ?_
    refine lv_dup hx hb dX6_addGroup_20 rfl ?_
    refine va_get (D := D) (ci := 6) (v := .int (nI gc)) (C := RX6) (T := TX6) (N := 10) hx hb hts inX6_addGroup_X6 hown hK hP 0 rfl rfl 3 (by decide) (hts (.fieldLink RX6 15 "ScrambledLine$Sender" "groupCount" "I") (by decide +kernel)) (fun _ h9 => h9) rfl dX6_addGroup_21 ?_
    refine lv_iconst (v := nI 1) hx hb dX6_addGroup_24 rfl ?_
    refine lv_iadd hx hb dX6_addGroup_25 ?_
    refine lv_to (y := nI (gc + 1)) (nI_add gc 1) ?_
    refine va_put (D := D) (ci := 6) (v := .int (nI (gc + 1))) (ty := .int) (C := RX6) (T := TX6) (N := 10) hx hb hts inX6_addGroup_X6 tyX6 tyX6_ok nmX6 hown hK hP hD hS 0 rfl rfl 3 (by decide) (hts (.fieldLink RX6 15 "ScrambledLine$Sender" "groupCount" "I") (by decide +kernel)) (fun _ h9 => h9) rfl (by decide +kernel) rfl rfl (Nat.le_of_ble_eq_true rfl) dX6_addGroup_26 (fun H locs hP hD hS => ?_)
    have hP : va_P D vwCl [(h0, .inr (6, [.ref ob, .ref sc, .ref gr, .int (nI (gc + 1)), .int gn, .int inf, .int idl, .int g, .int bl, .int la])), (gr, .inl (cI, 70, .inl (upd gf gc x)))] H := hP
    have hD : va_D A [(h0, .inr (6, [.ref ob, .ref sc, .ref gr, .int (nI (gc + 1)), .int gn, .int inf, .int idl, .int g, .int bl, .int la])), (gr, .inl (cI, 70, .inl (upd gf gc x)))] := hD
    refine W_q hQ ?_
    exact rt_v () hx hb hr hlocks dX6_addGroup_29 hS hP hD trivial

theorem inX6_lineLevel_X6 : ∀ w ∈ u_ws RX6 TX6 10, w ∈ wsX6_lineLevel := by decide +kernel
set_option maxHeartbeats 4000000 in
set_option maxRecDepth 100000 in
theorem c_X6_lineLevel (l : Launch) (D : va_G) (cI cG : ClassId) (tt : Nat × Nat × Nat) (sz : Nat) (h0 : Nat) (ob : Nat) (sc : Nat) (gr : Nat) (gc : Int32) (gn : Int32) (inf : Int32) (idl : Int32) (g : Int32) (bl : Int32) (la : Nat) (hla : la < 4) : Met l yX6_lineLevel wsX6_lineLevel ({ frames := 0, cells := 0, slots := 0, locals := 0 }) (PC D cI cG tt [.ref h0] [(h0, .inr (6, [.ref ob, .ref sc, .ref gr, .int gc, .int gn, .int inf, .int idl, .int g, .int bl, .int (nI la)]))] sz) (QI (fun (r : Int32) (u : Unit) => r = lvI la) (fun (u : Unit) => [(h0, .inr (6, [.ref ob, .ref sc, .ref gr, .int gc, .int gn, .int inf, .int idl, .int g, .int bl, .int (nI la)]))]) D (va_A [(h0, .inr (6, [.ref ob, .ref sc, .ref gr, .int gc, .int gn, .int inf, .int idl, .int g, .int bl, .int (nI la)]))] sz)) 0 0 (va_A [(h0, .inr (6, [.ref ob, .ref sc, .ref gr, .int gc, .int gn, .int inf, .int idl, .int g, .int bl, .int (nI la)]))] sz) := by
  refine ct_of (y := yX6_lineLevel) (cc := cX6_lineLevel) (maxL := 1) (ret := (some .int)) (Qf := QI (fun (r : Int32) (u : Unit) => r = lvI la) (fun (u : Unit) => [(h0, .inr (6, [.ref ob, .ref sc, .ref gr, .int gc, .int gn, .int inf, .int idl, .int g, .int bl, .int (nI la)]))]) D) (by decide) rfl ?_
  intro p e s m args below meth c A Q R H locs hR hQ hx hb hml hr hts hown hlocks hin hP hD hE hT hA hS
  have hK := hE.1
  have hl := lv_entry ([.ref h0]) (n := 1) (Nat.le_of_ble_eq_true rfl)
  rw [lg_entry_eq]
  generalize (lg_sl ([.ref h0]) ++ List.replicate (1 - (lg_sl ([.ref h0])).length) Slot.unset).toArray = ls at hl ⊢
  have hl : lv_has ls 1 [(0, .ref h0)] := hl
  refine va_getsN hx hb (C := RX7) (n := "LEVELS") (d := "[I") (ref := "ScrambledLine") hT.2.2.1 hS hown (hE.2.1.fX6_60) (fun _ h9 => h9) dX6_lineLevel_0 ?_
  refine lv_aload_n hx hb dX6_lineLevel_3 rfl (lv_at hl 0 rfl) ?_
  refine va_get (D := D) (ci := 6) (v := .int (nI la)) (C := RX6) (T := TX6) (N := 10) hx hb hts inX6_lineLevel_X6 hown hK hP 0 rfl rfl 9 (by decide) (hts (.fieldLink RX6 35 "ScrambledLine$Sender" "levelAt" "I") (by decide +kernel)) (fun _ h9 => h9) rfl dX6_lineLevel_4 ?_
  refine gt_i hx hb hT.2.2.2 hS (i := la) (by omega) (by decide) dX6_lineLevel_7 ?_
  refine lv_to (y := lvI la) (rfl) ?_
  refine W_q hQ ?_
  exact rt_i () hx hb hr hlocks dX6_lineLevel_8 hS hP hD rfl

theorem inX6_beginFrame_X6 : ∀ w ∈ u_ws RX6 TX6 10, w ∈ wsX6_beginFrame := by decide +kernel
set_option maxHeartbeats 4000000 in
set_option maxRecDepth 100000 in
theorem c_X6_beginFrame (l : Launch) (D : va_G) (cI cG : ClassId) (tt : Nat × Nat × Nat) (sz : Nat) (h0 : Nat) (ob : Nat) (sc : Nat) (gr : Nat) (gc : Int32) (gn : Int32) (inf : Int32) (idl : Int32) (g : Int32) (bl : Int32) (la : Int32) (gf : Nat → Int32) (row : Nat) (rf : Nat → Int32) (n : Nat) (Bf : Nat → Nat) (hn : n ≤ 24) (hrow : ∀ i, i < fsz n + 4 → rf i = nI (Bf i) ∧ Bf i < 256) (hB2 : Bf 2 = n) : Met l yX6_beginFrame wsX6_beginFrame ({ frames := 2, cells := 0, slots := 0, locals := 34 }) (PC D cI cG tt [.ref h0, .ref row] [(h0, .inr (6, [.ref ob, .ref sc, .ref gr, .int gc, .int gn, .int inf, .int idl, .int g, .int bl, .int la])), (gr, .inl (cI, 70, .inl gf)), (row, .inl (cI, 31, .inl rf))] sz) (QV (fun (u : (Nat → Int32)) => match u with | gf2 => GR Bf (fsz n + 4) gf2 (2 * (fsz n + 4) + 8)) (fun (u : (Nat → Int32)) => match u with | gf2 => [(h0, .inr (6, [.ref ob, .ref sc, .ref gr, .int (nI (2 * (fsz n + 4) + 8)), .int (nI 0), .int (nI 1), .int idl, .int g, .int bl, .int la])), (gr, .inl (cI, 70, .inl gf2)), (row, .inl (cI, 31, .inl rf))]) D (va_A [(h0, .inr (6, [.ref ob, .ref sc, .ref gr, .int gc, .int gn, .int inf, .int idl, .int g, .int bl, .int la])), (gr, .inl (cI, 70, .inl gf)), (row, .inl (cI, 31, .inl rf))] sz)) 0 0 (va_A [(h0, .inr (6, [.ref ob, .ref sc, .ref gr, .int gc, .int gn, .int inf, .int idl, .int g, .int bl, .int la])), (gr, .inl (cI, 70, .inl gf)), (row, .inl (cI, 31, .inl rf))] sz) := by
  refine ct_of (y := yX6_beginFrame) (cc := cX6_beginFrame) (maxL := 4) (ret := none) (Qf := QV (fun (u : (Nat → Int32)) => match u with | gf2 => GR Bf (fsz n + 4) gf2 (2 * (fsz n + 4) + 8)) (fun (u : (Nat → Int32)) => match u with | gf2 => [(h0, .inr (6, [.ref ob, .ref sc, .ref gr, .int (nI (2 * (fsz n + 4) + 8)), .int (nI 0), .int (nI 1), .int idl, .int g, .int bl, .int la])), (gr, .inl (cI, 70, .inl gf2)), (row, .inl (cI, 31, .inl rf))]) D) (by decide) rfl ?_
  intro p e s m args below meth c A Q R H locs hR hQ hx hb hml hr hts hown hlocks hin hP hD hE hT hA hS
  have hK := hE.1
  have hl := lv_entry ([.ref h0, .ref row]) (n := 4) (Nat.le_of_ble_eq_true rfl)
  rw [lg_entry_eq]
  generalize (lg_sl ([.ref h0, .ref row]) ++ List.replicate (4 - (lg_sl ([.ref h0, .ref row])).length) Slot.unset).toArray = ls at hl ⊢
  have hl : lv_has ls 4 [(0, .ref h0), (1, .ref row)] := hl
  have hfz : 9 ≤ fsz n ∧ fsz n ≤ 27 := by unfold fsz; omega
  refine lv_aload_n hx hb dX6_beginFrame_0 rfl (lv_at hl 0 rfl) ?_
  refine lv_iconst (v := nI 1) hx hb dX6_beginFrame_1 rfl ?_
  refine va_put (D := D) (ci := 6) (v := .int (nI 1)) (ty := .boolean) (C := RX6) (T := TX6) (N := 10) hx hb hts inX6_beginFrame_X6 tyX6 tyX6_ok nmX6 hown hK hP hD hS 0 rfl rfl 5 (by decide) (hts (.fieldLink RX6 22 "ScrambledLine$Sender" "inFrame" "Z") (by decide +kernel)) (fun _ h9 => h9) rfl (by decide +kernel) rfl rfl (Nat.le_of_ble_eq_true rfl) dX6_beginFrame_2 (fun H locs hP hD hS => ?_)
  have hP : va_P D vwCl [(h0, .inr (6, [.ref ob, .ref sc, .ref gr, .int gc, .int gn, .int (nI 1), .int idl, .int g, .int bl, .int la])), (gr, .inl (cI, 70, .inl gf)), (row, .inl (cI, 31, .inl rf))] H := hP
  have hD : va_D A [(h0, .inr (6, [.ref ob, .ref sc, .ref gr, .int gc, .int gn, .int (nI 1), .int idl, .int g, .int bl, .int la])), (gr, .inl (cI, 70, .inl gf)), (row, .inl (cI, 31, .inl rf))] := hD
  refine lv_aload_n hx hb dX6_beginFrame_5 rfl (lv_at hl 0 rfl) ?_
  refine lv_iconst (v := nI 0) hx hb dX6_beginFrame_6 rfl ?_
  refine va_put (D := D) (ci := 6) (v := .int (nI 0)) (ty := .int) (C := RX6) (T := TX6) (N := 10) hx hb hts inX6_beginFrame_X6 tyX6 tyX6_ok nmX6 hown hK hP hD hS 0 rfl rfl 4 (by decide) (hts (.fieldLink RX6 19 "ScrambledLine$Sender" "groupsSent" "I") (by decide +kernel)) (fun _ h9 => h9) rfl (by decide +kernel) rfl rfl (Nat.le_of_ble_eq_true rfl) dX6_beginFrame_7 (fun H locs hP hD hS => ?_)
  have hP : va_P D vwCl [(h0, .inr (6, [.ref ob, .ref sc, .ref gr, .int gc, .int (nI 0), .int (nI 1), .int idl, .int g, .int bl, .int la])), (gr, .inl (cI, 70, .inl gf)), (row, .inl (cI, 31, .inl rf))] H := hP
  have hD : va_D A [(h0, .inr (6, [.ref ob, .ref sc, .ref gr, .int gc, .int (nI 0), .int (nI 1), .int idl, .int g, .int bl, .int la])), (gr, .inl (cI, 70, .inl gf)), (row, .inl (cI, 31, .inl rf))] := hD
  refine lv_aload_n hx hb dX6_beginFrame_10 rfl (lv_at hl 0 rfl) ?_
  refine lv_iconst (v := nI 0) hx hb dX6_beginFrame_11 rfl ?_
  refine va_put (D := D) (ci := 6) (v := .int (nI 0)) (ty := .int) (C := RX6) (T := TX6) (N := 10) hx hb hts inX6_beginFrame_X6 tyX6 tyX6_ok nmX6 hown hK hP hD hS 0 rfl rfl 3 (by decide) (hts (.fieldLink RX6 15 "ScrambledLine$Sender" "groupCount" "I") (by decide +kernel)) (fun _ h9 => h9) rfl (by decide +kernel) rfl rfl (Nat.le_of_ble_eq_true rfl) dX6_beginFrame_12 (fun H locs hP hD hS => ?_)
  have hP : va_P D vwCl [(h0, .inr (6, [.ref ob, .ref sc, .ref gr, .int (nI 0), .int (nI 0), .int (nI 1), .int idl, .int g, .int bl, .int la])), (gr, .inl (cI, 70, .inl gf)), (row, .inl (cI, 31, .inl rf))] H := hP
  have hD : va_D A [(h0, .inr (6, [.ref ob, .ref sc, .ref gr, .int (nI 0), .int (nI 0), .int (nI 1), .int idl, .int g, .int bl, .int la])), (gr, .inl (cI, 70, .inl gf)), (row, .inl (cI, 31, .inl rf))] := hD
  refine lv_aload_n hx hb dX6_beginFrame_15 rfl (lv_at hl 0 rfl) ?_
  refine lv_bipush (v := nI 24) hx hb dX6_beginFrame_16 rfl ?_
  refine ca_v (wr := [(row, .inl (cI, 31, .inl rf))]) (ru_V (As := [.int (nI 24)]) (rest := []) ⟨hx, hb, hml, hown, hts⟩ (c_X6_addGroup l D cI cG tt H.size h0 ob sc gr 0 (nI 0) (nI 1) idl g bl la gf (nI 24) (by omega)) (cwV 1 hts gX6_beginFrame_X6_addGroup rfl rfl rfl (by decide +kernel) ⟨by rw [hR]; exact Nat.le_of_ble_eq_true rfl, by rw [hR]; exact Nat.le_of_ble_eq_true rfl⟩) hP hD hE hT hS hA [0, 1] rfl (by decide) (va_recv hK hP (ci := 6) (q0 := 0) rfl rfl) rfl hl.1 rfl (Nat.le_of_ble_eq_true rfl) dX6_beginFrame_18 ⟨by rw [hR]; exact Nat.le_of_ble_eq_true rfl, by rw [hR]; exact Nat.le_of_ble_eq_true rfl⟩) hP hD hS hA [0, 1] [2] rfl rfl (by decide) (by decide) (fun u H locs hw hP hD hS => ?_)
  have hP : va_P D vwCl [(row, .inl (cI, 31, .inl rf)), (h0, .inr (6, [.ref ob, .ref sc, .ref gr, .int (nI (0 + 1)), .int (nI 0), .int (nI 1), .int idl, .int g, .int bl, .int la])), (gr, .inl (cI, 70, .inl (upd gf 0 (nI 24))))] H := hP
  have hD : va_D A [(row, .inl (cI, 31, .inl rf)), (h0, .inr (6, [.ref ob, .ref sc, .ref gr, .int (nI (0 + 1)), .int (nI 0), .int (nI 1), .int idl, .int g, .int bl, .int la])), (gr, .inl (cI, 70, .inl (upd gf 0 (nI 24))))] := hD
  refine lv_aload_n hx hb dX6_beginFrame_21 rfl (lv_at hl 0 rfl) ?_
  refine lv_bipush (v := nI 17) hx hb dX6_beginFrame_22 rfl ?_
  refine ca_v (wr := [(row, .inl (cI, 31, .inl rf))]) (ru_V (As := [.int (nI 17)]) (rest := []) ⟨hx, hb, hml, hown, hts⟩ (c_X6_addGroup l D cI cG tt H.size h0 ob sc gr (0 + 1) (nI 0) (nI 1) idl g bl la (upd gf 0 (nI 24)) (nI 17) (by omega)) (cwV 1 hts gX6_beginFrame_X6_addGroup rfl rfl rfl (by decide +kernel) ⟨by rw [hR]; exact Nat.le_of_ble_eq_true rfl, by rw [hR]; exact Nat.le_of_ble_eq_true rfl⟩) hP hD hE hT hS hA [1, 2] rfl (by decide) (va_recv hK hP (ci := 6) (q0 := 1) rfl rfl) rfl hl.1 rfl (Nat.le_of_ble_eq_true rfl) dX6_beginFrame_24 ⟨by rw [hR]; exact Nat.le_of_ble_eq_true rfl, by rw [hR]; exact Nat.le_of_ble_eq_true rfl⟩) hP hD hS hA [1, 2] [0] rfl rfl (by decide) (by decide) (fun u H locs hw hP hD hS => ?_)
  have hP : va_P D vwCl [(row, .inl (cI, 31, .inl rf)), (h0, .inr (6, [.ref ob, .ref sc, .ref gr, .int (nI ((0 + 1) + 1)), .int (nI 0), .int (nI 1), .int idl, .int g, .int bl, .int la])), (gr, .inl (cI, 70, .inl (upd (upd gf 0 (nI 24)) (0 + 1) (nI 17))))] H := hP
  have hD : va_D A [(row, .inl (cI, 31, .inl rf)), (h0, .inr (6, [.ref ob, .ref sc, .ref gr, .int (nI ((0 + 1) + 1)), .int (nI 0), .int (nI 1), .int idl, .int g, .int bl, .int la])), (gr, .inl (cI, 70, .inl (upd (upd gf 0 (nI 24)) (0 + 1) (nI 17))))] := hD
  refine lv_iconst (v := nI 0) hx hb dX6_beginFrame_27 rfl ?_
  refine lv_istore_n (lv' := [(2, .int (nI 0)), (0, .ref h0), (1, .ref row)]) hx hb dX6_beginFrame_28 rfl hl (by decide) rfl (fun ls hl => ?_)
  have L29 : ∀ (fu29 : Nat), ∀ (i : Nat) (cnt : Nat) (ga2 : Nat → Int32), (i ≤ 3) → (cnt = 2 + i) → (GR Bf (fsz n + 4) ga2 (2 + i)) → 3 - i < fu29 → ∀ (H : Heap) (locs : List Loc), va_P D vwCl [(row, .inl (cI, 31, .inl rf)), (h0, .inr (6, [.ref ob, .ref sc, .ref gr, .int (nI cnt), .int (nI 0), .int (nI 1), .int idl, .int g, .int bl, .int la])), (gr, .inl (cI, 70, .inl ga2))] H → va_D A [(row, .inl (cI, 31, .inl rf)), (h0, .inr (6, [.ref ob, .ref sc, .ref gr, .int (nI cnt), .int (nI 0), .int (nI 1), .int idl, .int g, .int bl, .int la])), (gr, .inl (cI, 70, .inl ga2))] → va_S A s.heap H locs → ∀ ls : Array Slot, lv_has ls 4 [(2, .int (nI i)), (0, .ref h0), (1, .ref row)] → W p l e R s m args below meth c H locs 0 0 Q (F0 m 29 ls []) := by
    intro fu29
    induction fu29 with
    | zero => intro i cnt ga2 hi hc hgr hm29; exact absurd hm29 (Nat.not_lt_zero _)
    | succ fu29 ih29 =>
      intro i cnt ga2 hi hc hgr hm29 H locs hP hD hS ls hl
      refine lv_iload_n hx hb dX6_beginFrame_29 rfl (lv_at hl 0 rfl) ?_
      refine lv_iconst (v := nI 3) hx hb dX6_beginFrame_30 rfl ?_
      refine lv_icmp_ge (tgt := 49) hx hb dX6_beginFrame_31 (by decide) (fun c31 => ?_) (fun c31 => ?_)
      · skip
        have k31 : 3 ≤ i := (nI_leI (a := 3) (b := i) (by omega) (by omega)).mp c31
        refine lv_aload_n hx hb dX6_beginFrame_49 rfl (lv_at hl 1 rfl) ?_
        refine va_getsN hx hb (C := RX7) (n := "GROUP_OF_NIBBLE") (d := "[I") (ref := "ScrambledLine") hT.1.1 hS hown (hE.2.1.fX6_93) (fun _ h9 => h9) dX6_beginFrame_50 ?_
        refine lv_bipush (v := nI 13) hx hb dX6_beginFrame_53 rfl ?_
        refine gt_i hx hb hT.1.2 hS (i := 13) (by omega) (by decide) dX6_beginFrame_55 ?_
        refine lv_to (y := nI 27) (rfl) ?_
        refine ca_v (wr := [(row, .inl (cI, 31, .inl rf))]) (ru_V (As := [.int (nI 27)]) (rest := []) ⟨hx, hb, hml, hown, hts⟩ (c_X6_addGroup l D cI cG tt H.size h0 ob sc gr cnt (nI 0) (nI 1) idl g bl la ga2 (nI 27) (by omega)) (cwV 1 hts gX6_beginFrame_X6_addGroup rfl rfl rfl (by decide +kernel) ⟨by rw [hR]; exact Nat.le_of_ble_eq_true rfl, by rw [hR]; exact Nat.le_of_ble_eq_true rfl⟩) hP hD hE hT hS hA [1, 2] rfl (by decide) (va_recv hK hP (ci := 6) (q0 := 1) rfl rfl) rfl hl.1 rfl (Nat.le_of_ble_eq_true rfl) dX6_beginFrame_56 ⟨by rw [hR]; exact Nat.le_of_ble_eq_true rfl, by rw [hR]; exact Nat.le_of_ble_eq_true rfl⟩) hP hD hS hA [1, 2] [0] rfl rfl (by decide) (by decide) (fun u H locs hw hP hD hS => ?_)
        have hP : va_P D vwCl [(row, .inl (cI, 31, .inl rf)), (h0, .inr (6, [.ref ob, .ref sc, .ref gr, .int (nI (cnt + 1)), .int (nI 0), .int (nI 1), .int idl, .int g, .int bl, .int la])), (gr, .inl (cI, 70, .inl (upd ga2 cnt (nI 27))))] H := hP
        have hD : va_D A [(row, .inl (cI, 31, .inl rf)), (h0, .inr (6, [.ref ob, .ref sc, .ref gr, .int (nI (cnt + 1)), .int (nI 0), .int (nI 1), .int idl, .int g, .int bl, .int la])), (gr, .inl (cI, 70, .inl (upd ga2 cnt (nI 27))))] := hD
        refine lv_aload_n hx hb dX6_beginFrame_59 rfl (lv_at hl 2 rfl) ?_
        refine lv_iconst (v := nI 2) hx hb dX6_beginFrame_60 rfl ?_
        refine gl_i hx hb hK hP 0 rfl (i := 2) (by omega) (by first | decide | omega) dX6_beginFrame_61 ?_
        refine lv_to (y := nI n) (by rw [(hrow 2 (by omega)).1, hB2]) ?_
        refine ca_i (wr := [(row, .inl (cI, 31, .inl rf)), (h0, .inr (6, [.ref ob, .ref sc, .ref gr, .int (nI (cnt + 1)), .int (nI 0), .int (nI 1), .int idl, .int g, .int bl, .int la])), (gr, .inl (cI, 70, .inl (upd ga2 cnt (nI 27))))]) (ru_SN (As := [.int (nI n)]) (rest := []) ⟨hx, hb, hml, hown, hts⟩ (c_X7_frameSize l D cI cG tt H.size n (by omega)) ⟨va_cnB 1 hts gX6_beginFrame_X7_frameSize_n96 rfl rfl rfl (hE.2.1.mX6_96) (hts (.initialized RX7) (by decide +kernel)) (by decide +kernel) ⟨by rw [hR]; exact Nat.le_of_ble_eq_true rfl, by rw [hR]; exact Nat.le_of_ble_eq_true rfl⟩, hts (.static yX7_frameSize) (by decide +kernel), trivial⟩ hP hD hE hT hS hA [] rfl (by decide) rfl hl.1 rfl (Nat.le_of_ble_eq_true rfl) dX6_beginFrame_62 ⟨by rw [hR]; exact Nat.le_of_ble_eq_true rfl, by rw [hR]; exact Nat.le_of_ble_eq_true rfl⟩) hP hD hS hA [] [0, 1, 2] rfl rfl (by decide) (by decide) (fun r62 u H locs hw hP hD hS => ?_)
        obtain rfl := hw
        have hP : va_P D vwCl [(row, .inl (cI, 31, .inl rf)), (h0, .inr (6, [.ref ob, .ref sc, .ref gr, .int (nI (cnt + 1)), .int (nI 0), .int (nI 1), .int idl, .int g, .int bl, .int la])), (gr, .inl (cI, 70, .inl (upd ga2 cnt (nI 27))))] H := hP
        have hD : va_D A [(row, .inl (cI, 31, .inl rf)), (h0, .inr (6, [.ref ob, .ref sc, .ref gr, .int (nI (cnt + 1)), .int (nI 0), .int (nI 1), .int idl, .int g, .int bl, .int la])), (gr, .inl (cI, 70, .inl (upd ga2 cnt (nI 27))))] := hD
        refine lv_istore_n (lv' := [(2, .int (nI (fsz n + 4))), (0, .ref h0), (1, .ref row)]) hx hb dX6_beginFrame_65 rfl hl (by decide) rfl (fun ls hl => ?_)
        refine lv_iconst (v := nI 0) hx hb dX6_beginFrame_66 rfl ?_
        refine lv_istore_n (lv' := [(3, .int (nI 0)), (2, .int (nI (fsz n + 4))), (0, .ref h0), (1, .ref row)]) hx hb dX6_beginFrame_67 rfl hl (by decide) rfl (fun ls hl => ?_)
        have L68 : ∀ (fu68 : Nat), ∀ (i : Nat) (cnt : Nat) (ga2 : Nat → Int32), (i ≤ (fsz n + 4)) → (cnt = 6 + 2 * i) → (GR Bf (fsz n + 4) ga2 (6 + 2 * i)) → (fsz n + 4) - i < fu68 → ∀ (H : Heap) (locs : List Loc), va_P D vwCl [(row, .inl (cI, 31, .inl rf)), (h0, .inr (6, [.ref ob, .ref sc, .ref gr, .int (nI cnt), .int (nI 0), .int (nI 1), .int idl, .int g, .int bl, .int la])), (gr, .inl (cI, 70, .inl ga2))] H → va_D A [(row, .inl (cI, 31, .inl rf)), (h0, .inr (6, [.ref ob, .ref sc, .ref gr, .int (nI cnt), .int (nI 0), .int (nI 1), .int idl, .int g, .int bl, .int la])), (gr, .inl (cI, 70, .inl ga2))] → va_S A s.heap H locs → ∀ ls : Array Slot, lv_has ls 4 [(3, .int (nI i)), (2, .int (nI (fsz n + 4))), (0, .ref h0), (1, .ref row)] → W p l e R s m args below meth c H locs 0 0 Q (F0 m 68 ls []) := by
          intro fu68
          induction fu68 with
          | zero => intro i cnt ga2 hi hc hgr hm68; exact absurd hm68 (Nat.not_lt_zero _)
          | succ fu68 ih68 =>
            intro i cnt ga2 hi hc hgr hm68 H locs hP hD hS ls hl
            refine lv_iload_n hx hb dX6_beginFrame_68 rfl (lv_at hl 0 rfl) ?_
            refine lv_iload_n hx hb dX6_beginFrame_69 rfl (lv_at hl 1 rfl) ?_
            refine lv_icmp_ge (tgt := 115) hx hb dX6_beginFrame_70 (by decide) (fun c70 => ?_) (fun c70 => ?_)
            · skip
              have k70 : (fsz n + 4) ≤ i := (nI_leI (a := (fsz n + 4)) (b := i) (by omega) (by omega)).mp c70
              refine lv_aload_n hx hb dX6_beginFrame_115 rfl (lv_at hl 2 rfl) ?_
              refine lv_bipush (v := nI 13) hx hb dX6_beginFrame_116 rfl ?_
              refine ca_v (wr := [(row, .inl (cI, 31, .inl rf))]) (ru_V (As := [.int (nI 13)]) (rest := []) ⟨hx, hb, hml, hown, hts⟩ (c_X6_addGroup l D cI cG tt H.size h0 ob sc gr cnt (nI 0) (nI 1) idl g bl la ga2 (nI 13) (by omega)) (cwV 1 hts gX6_beginFrame_X6_addGroup rfl rfl rfl (by decide +kernel) ⟨by rw [hR]; exact Nat.le_of_ble_eq_true rfl, by rw [hR]; exact Nat.le_of_ble_eq_true rfl⟩) hP hD hE hT hS hA [1, 2] rfl (by decide) (va_recv hK hP (ci := 6) (q0 := 1) rfl rfl) rfl hl.1 rfl (Nat.le_of_ble_eq_true rfl) dX6_beginFrame_118 ⟨by rw [hR]; exact Nat.le_of_ble_eq_true rfl, by rw [hR]; exact Nat.le_of_ble_eq_true rfl⟩) hP hD hS hA [1, 2] [0] rfl rfl (by decide) (by decide) (fun u H locs hw hP hD hS => ?_)
              have hP : va_P D vwCl [(row, .inl (cI, 31, .inl rf)), (h0, .inr (6, [.ref ob, .ref sc, .ref gr, .int (nI (cnt + 1)), .int (nI 0), .int (nI 1), .int idl, .int g, .int bl, .int la])), (gr, .inl (cI, 70, .inl (upd ga2 cnt (nI 13))))] H := hP
              have hD : va_D A [(row, .inl (cI, 31, .inl rf)), (h0, .inr (6, [.ref ob, .ref sc, .ref gr, .int (nI (cnt + 1)), .int (nI 0), .int (nI 1), .int idl, .int g, .int bl, .int la])), (gr, .inl (cI, 70, .inl (upd ga2 cnt (nI 13))))] := hD
              refine lv_aload_n hx hb dX6_beginFrame_121 rfl (lv_at hl 2 rfl) ?_
              refine lv_bipush (v := nI 7) hx hb dX6_beginFrame_122 rfl ?_
              refine ca_v (wr := [(row, .inl (cI, 31, .inl rf))]) (ru_V (As := [.int (nI 7)]) (rest := []) ⟨hx, hb, hml, hown, hts⟩ (c_X6_addGroup l D cI cG tt H.size h0 ob sc gr (cnt + 1) (nI 0) (nI 1) idl g bl la (upd ga2 cnt (nI 13)) (nI 7) (by omega)) (cwV 1 hts gX6_beginFrame_X6_addGroup rfl rfl rfl (by decide +kernel) ⟨by rw [hR]; exact Nat.le_of_ble_eq_true rfl, by rw [hR]; exact Nat.le_of_ble_eq_true rfl⟩) hP hD hE hT hS hA [1, 2] rfl (by decide) (va_recv hK hP (ci := 6) (q0 := 1) rfl rfl) rfl hl.1 rfl (Nat.le_of_ble_eq_true rfl) dX6_beginFrame_124 ⟨by rw [hR]; exact Nat.le_of_ble_eq_true rfl, by rw [hR]; exact Nat.le_of_ble_eq_true rfl⟩) hP hD hS hA [1, 2] [0] rfl rfl (by decide) (by decide) (fun u H locs hw hP hD hS => ?_)
              have hP : va_P D vwCl [(row, .inl (cI, 31, .inl rf)), (h0, .inr (6, [.ref ob, .ref sc, .ref gr, .int (nI ((cnt + 1) + 1)), .int (nI 0), .int (nI 1), .int idl, .int g, .int bl, .int la])), (gr, .inl (cI, 70, .inl (upd (upd ga2 cnt (nI 13)) (cnt + 1) (nI 7))))] H := hP
              have hD : va_D A [(row, .inl (cI, 31, .inl rf)), (h0, .inr (6, [.ref ob, .ref sc, .ref gr, .int (nI ((cnt + 1) + 1)), .int (nI 0), .int (nI 1), .int idl, .int g, .int bl, .int la])), (gr, .inl (cI, 70, .inl (upd (upd ga2 cnt (nI 13)) (cnt + 1) (nI 7))))] := hD
              have ecnt : cnt + 1 + 1 = 2 * (fsz n + 4) + 8 := by omega
              rw [ecnt] at hP hD
              have hg9 := GR_e (show cnt = 6 + 2 * (fsz n + 4) by omega) (show i = (fsz n + 4) by omega) hgr
              refine W_q hQ ?_
              exact rt_v (upd (upd ga2 cnt (nI 13)) (cnt + 1) (nI 7)) hx hb hr hlocks dX6_beginFrame_127 hS (hP.sub [1, 2, 0] rfl) (hD.sub [1, 2, 0] (by decide) rfl) hg9
            · skip
              have k70 : ¬ (fsz n + 4) ≤ i := fun zq => c70 ((nI_leI (a := (fsz n + 4)) (b := i) (by omega) (by omega)).mpr zq)
              refine lv_iload_n hx hb dX6_beginFrame_73 rfl (lv_at hl 0 rfl) ?_
              refine lv_aload_n hx hb dX6_beginFrame_74 rfl (lv_at hl 3 rfl) ?_
              refine va_alen hx hb hK hP 0 0 rfl rfl (v := nI 31) rfl dX6_beginFrame_75 ?_
              refine lv_icmp_ge (tgt := 115) hx hb dX6_beginFrame_76 (by decide) (fun c76 => ?_) (fun c76 => ?_)
              · skip
                have k76 : 31 ≤ i := (nI_leI (a := 31) (b := i) (by omega) (by omega)).mp c76
                exact False.elim (by omega)
              · skip
                have k76 : ¬ 31 ≤ i := fun zq => c76 ((nI_leI (a := 31) (b := i) (by omega) (by omega)).mpr zq)
                refine lv_aload_n hx hb dX6_beginFrame_79 rfl (lv_at hl 2 rfl) ?_
                refine va_getsN hx hb (C := RX7) (n := "GROUP_OF_NIBBLE") (d := "[I") (ref := "ScrambledLine") hT.1.1 hS hown (hE.2.1.fX6_93) (fun _ h9 => h9) dX6_beginFrame_80 ?_
                refine lv_aload_n hx hb dX6_beginFrame_83 rfl (lv_at hl 3 rfl) ?_
                have hbi := (hrow i (by omega)).2
                refine lv_iload_n hx hb dX6_beginFrame_84 rfl (lv_at hl 0 rfl) ?_
                refine gl_i hx hb hK hP 0 rfl (i := i) (by omega) (by first | decide | omega) dX6_beginFrame_85 ?_
                refine lv_to (y := nI (Bf i)) ((hrow i (by omega)).1) ?_
                refine lv_bipush (v := nI 15) hx hb dX6_beginFrame_86 rfl ?_
                refine lv_iand hx hb dX6_beginFrame_88 ?_
                refine lv_to (y := nI ((Bf i) % 16)) (pk_andN (by omega) 4 rfl) ?_
                refine gt_i hx hb hT.1.2 hS (i := ((Bf i) % 16)) (by omega) (by decide) dX6_beginFrame_89 ?_
                refine lv_to (y := nI (gN (Bf i % 16))) (tabG_at _ (by omega)) ?_
                refine ca_v (wr := [(row, .inl (cI, 31, .inl rf))]) (ru_V (As := [.int (nI (gN (Bf i % 16)))]) (rest := []) ⟨hx, hb, hml, hown, hts⟩ (c_X6_addGroup l D cI cG tt H.size h0 ob sc gr cnt (nI 0) (nI 1) idl g bl la ga2 (nI (gN (Bf i % 16))) (by omega)) (cwV 1 hts gX6_beginFrame_X6_addGroup rfl rfl rfl (by decide +kernel) ⟨by rw [hR]; exact Nat.le_of_ble_eq_true rfl, by rw [hR]; exact Nat.le_of_ble_eq_true rfl⟩) hP hD hE hT hS hA [1, 2] rfl (by decide) (va_recv hK hP (ci := 6) (q0 := 1) rfl rfl) rfl hl.1 rfl (Nat.le_of_ble_eq_true rfl) dX6_beginFrame_90 ⟨by rw [hR]; exact Nat.le_of_ble_eq_true rfl, by rw [hR]; exact Nat.le_of_ble_eq_true rfl⟩) hP hD hS hA [1, 2] [0] rfl rfl (by decide) (by decide) (fun u H locs hw hP hD hS => ?_)
                have hP : va_P D vwCl [(row, .inl (cI, 31, .inl rf)), (h0, .inr (6, [.ref ob, .ref sc, .ref gr, .int (nI (cnt + 1)), .int (nI 0), .int (nI 1), .int idl, .int g, .int bl, .int la])), (gr, .inl (cI, 70, .inl (upd ga2 cnt (nI (gN (Bf i % 16))))))] H := hP
                have hD : va_D A [(row, .inl (cI, 31, .inl rf)), (h0, .inr (6, [.ref ob, .ref sc, .ref gr, .int (nI (cnt + 1)), .int (nI 0), .int (nI 1), .int idl, .int g, .int bl, .int la])), (gr, .inl (cI, 70, .inl (upd ga2 cnt (nI (gN (Bf i % 16))))))] := hD
                refine lv_aload_n hx hb dX6_beginFrame_93 rfl (lv_at hl 2 rfl) ?_
                refine va_getsN hx hb (C := RX7) (n := "GROUP_OF_NIBBLE") (d := "[I") (ref := "ScrambledLine") hT.1.1 hS hown (hE.2.1.fX6_93) (fun _ h9 => h9) dX6_beginFrame_94 ?_
                refine lv_aload_n hx hb dX6_beginFrame_97 rfl (lv_at hl 3 rfl) ?_
                refine lv_iload_n hx hb dX6_beginFrame_98 rfl (lv_at hl 0 rfl) ?_
                have hbi := (hrow i (by omega)).2
                refine gl_i hx hb hK hP 0 rfl (i := i) (by omega) (by first | decide | omega) dX6_beginFrame_99 ?_
                refine lv_to (y := nI (Bf i)) ((hrow i (by omega)).1) ?_
                refine lv_iconst (v := nI 4) hx hb dX6_beginFrame_100 rfl ?_
                refine lv_iushr (v := nI ((Bf i) / 16)) hx hb dX6_beginFrame_101 (pk_ushrN (n := (Bf i)) (by omega) _ 4 rfl) ?_
                refine lv_bipush (v := nI 15) hx hb dX6_beginFrame_102 rfl ?_
                refine lv_iand hx hb dX6_beginFrame_104 ?_
                refine lv_to (y := nI (((Bf i) / 16) % 16)) (pk_andN (by omega) 4 rfl) ?_
                refine gt_i hx hb hT.1.2 hS (i := (((Bf i) / 16) % 16)) (by omega) (by decide) dX6_beginFrame_105 ?_
                refine lv_to (y := nI (gN (Bf i / 16 % 16))) (tabG_at _ (by omega)) ?_
                refine ca_v (wr := [(row, .inl (cI, 31, .inl rf))]) (ru_V (As := [.int (nI (gN (Bf i / 16 % 16)))]) (rest := []) ⟨hx, hb, hml, hown, hts⟩ (c_X6_addGroup l D cI cG tt H.size h0 ob sc gr (cnt + 1) (nI 0) (nI 1) idl g bl la (upd ga2 cnt (nI (gN (Bf i % 16)))) (nI (gN (Bf i / 16 % 16))) (by omega)) (cwV 1 hts gX6_beginFrame_X6_addGroup rfl rfl rfl (by decide +kernel) ⟨by rw [hR]; exact Nat.le_of_ble_eq_true rfl, by rw [hR]; exact Nat.le_of_ble_eq_true rfl⟩) hP hD hE hT hS hA [1, 2] rfl (by decide) (va_recv hK hP (ci := 6) (q0 := 1) rfl rfl) rfl hl.1 rfl (Nat.le_of_ble_eq_true rfl) dX6_beginFrame_106 ⟨by rw [hR]; exact Nat.le_of_ble_eq_true rfl, by rw [hR]; exact Nat.le_of_ble_eq_true rfl⟩) hP hD hS hA [1, 2] [0] rfl rfl (by decide) (by decide) (fun u H locs hw hP hD hS => ?_)
                have hP : va_P D vwCl [(row, .inl (cI, 31, .inl rf)), (h0, .inr (6, [.ref ob, .ref sc, .ref gr, .int (nI ((cnt + 1) + 1)), .int (nI 0), .int (nI 1), .int idl, .int g, .int bl, .int la])), (gr, .inl (cI, 70, .inl (upd (upd ga2 cnt (nI (gN (Bf i % 16)))) (cnt + 1) (nI (gN (Bf i / 16 % 16))))))] H := hP
                have hD : va_D A [(row, .inl (cI, 31, .inl rf)), (h0, .inr (6, [.ref ob, .ref sc, .ref gr, .int (nI ((cnt + 1) + 1)), .int (nI 0), .int (nI 1), .int idl, .int g, .int bl, .int la])), (gr, .inl (cI, 70, .inl (upd (upd ga2 cnt (nI (gN (Bf i % 16)))) (cnt + 1) (nI (gN (Bf i / 16 % 16))))))] := hD
                refine lv_iinc (v := nI (i + 1)) (lv' := [(3, .int (nI (i + 1))), (2, .int (nI (fsz n + 4))), (0, .ref h0), (1, .ref row)]) hx hb dX6_beginFrame_109 hl (k := 0) rfl (nI_add i 1) (by decide) rfl (fun ls hl => ?_)
                refine lv_goto (tgt := 68) hx hb dX6_beginFrame_112 (by decide) ?_
                exact ih68 (i + 1) ((cnt + 1) + 1) (upd (upd ga2 cnt (nI (gN (Bf i % 16)))) (cnt + 1) (nI (gN (Bf i / 16 % 16)))) (by omega) (by omega) (GR_b hc (by omega) (hrow i (by omega)).2 hgr) (by omega) _ _ hP hD hS _ (lv_sub hl [0, 1, 2, 3] rfl)
        exact L68 _ 0 (cnt + 1) (upd ga2 cnt (nI 27)) (Nat.zero_le _) (by omega) (GR_5 (show cnt = 5 by omega) (show i = 3 by omega) hgr) (Nat.lt_succ_self _) _ _ hP hD hS _ (lv_sub hl [0, 1, 2, 3] rfl)
      · skip
        have k31 : ¬ 3 ≤ i := fun zq => c31 ((nI_leI (a := 3) (b := i) (by omega) (by omega)).mpr zq)
        refine lv_aload_n hx hb dX6_beginFrame_34 rfl (lv_at hl 1 rfl) ?_
        refine va_getsN hx hb (C := RX7) (n := "GROUP_OF_NIBBLE") (d := "[I") (ref := "ScrambledLine") hT.1.1 hS hown (hE.2.1.fX6_93) (fun _ h9 => h9) dX6_beginFrame_35 ?_
        refine lv_iconst (v := nI 5) hx hb dX6_beginFrame_38 rfl ?_
        refine gt_i hx hb hT.1.2 hS (i := 5) (by omega) (by decide) dX6_beginFrame_39 ?_
        refine lv_to (y := nI 11) (rfl) ?_
        refine ca_v (wr := [(row, .inl (cI, 31, .inl rf))]) (ru_V (As := [.int (nI 11)]) (rest := []) ⟨hx, hb, hml, hown, hts⟩ (c_X6_addGroup l D cI cG tt H.size h0 ob sc gr cnt (nI 0) (nI 1) idl g bl la ga2 (nI 11) (by omega)) (cwV 1 hts gX6_beginFrame_X6_addGroup rfl rfl rfl (by decide +kernel) ⟨by rw [hR]; exact Nat.le_of_ble_eq_true rfl, by rw [hR]; exact Nat.le_of_ble_eq_true rfl⟩) hP hD hE hT hS hA [1, 2] rfl (by decide) (va_recv hK hP (ci := 6) (q0 := 1) rfl rfl) rfl hl.1 rfl (Nat.le_of_ble_eq_true rfl) dX6_beginFrame_40 ⟨by rw [hR]; exact Nat.le_of_ble_eq_true rfl, by rw [hR]; exact Nat.le_of_ble_eq_true rfl⟩) hP hD hS hA [1, 2] [0] rfl rfl (by decide) (by decide) (fun u H locs hw hP hD hS => ?_)
        have hP : va_P D vwCl [(row, .inl (cI, 31, .inl rf)), (h0, .inr (6, [.ref ob, .ref sc, .ref gr, .int (nI (cnt + 1)), .int (nI 0), .int (nI 1), .int idl, .int g, .int bl, .int la])), (gr, .inl (cI, 70, .inl (upd ga2 cnt (nI 11))))] H := hP
        have hD : va_D A [(row, .inl (cI, 31, .inl rf)), (h0, .inr (6, [.ref ob, .ref sc, .ref gr, .int (nI (cnt + 1)), .int (nI 0), .int (nI 1), .int idl, .int g, .int bl, .int la])), (gr, .inl (cI, 70, .inl (upd ga2 cnt (nI 11))))] := hD
        refine lv_iinc (v := nI (i + 1)) (lv' := [(2, .int (nI (i + 1))), (0, .ref h0), (1, .ref row)]) hx hb dX6_beginFrame_43 hl (k := 0) rfl (nI_add i 1) (by decide) rfl (fun ls hl => ?_)
        refine lv_goto (tgt := 29) hx hb dX6_beginFrame_46 (by decide) ?_
        exact ih29 (i + 1) (cnt + 1) (upd ga2 cnt (nI 11)) (by omega) (by omega) (GR_l hc (by omega) hgr) (by omega) _ _ hP hD hS _ (lv_sub hl [0, 1, 2] rfl)
  exact L29 _ 0 ((0 + 1) + 1) (upd (upd gf 0 (nI 24)) (0 + 1) (nI 17)) (Nat.zero_le _) (by omega) (GR_s (GR_s GR_0 rfl) rfl) (Nat.lt_succ_self _) _ _ hP hD hS _ (lv_sub hl [0, 1, 2] rfl)

theorem inX6_chooseGroup_X3 : ∀ w ∈ u_ws RX3 TX3 6, w ∈ wsX6_chooseGroup := by decide +kernel
theorem inX6_chooseGroup_X6 : ∀ w ∈ u_ws RX6 TX6 10, w ∈ wsX6_chooseGroup := by decide +kernel
set_option maxHeartbeats 4000000 in
set_option maxRecDepth 100000 in
theorem c_X6_chooseGroup_idle (l : Launch) (D : va_G) (cI cG : ClassId) (tt : Nat × Nat × Nat) (sz : Nat) (h0 : Nat) (ob : Nat) (sc : Nat) (gr : Nat) (gc : Int32) (gn : Int32) (idl : Nat) (g : Int32) (bl : Int32) (la : Int32) (ga : Nat) (fa : Nat) (src : Nat) (gl : Nat) (ff : Nat) (fc : Nat) (hi : idl < 6 ∨ fc = 0) (hid : idl ≤ 6) (hfc : fc ≤ 4) : Met l yX6_chooseGroup wsX6_chooseGroup ({ frames := 3, cells := 0, slots := 0, locals := 57 }) (PC D cI cG tt [.ref h0] [(h0, .inr (6, [.ref ob, .ref sc, .ref gr, .int gc, .int gn, .int (nI 0), .int (nI idl), .int g, .int bl, .int la])), (ob, .inr (3, [.int (nI src), .ref ga, .int (nI gl), .ref fa, .int (nI ff), .int (nI fc)]))] sz) (QV (fun (u : Unit) => True) (fun (u : Unit) => [(h0, .inr (6, [.ref ob, .ref sc, .ref gr, .int gc, .int gn, .int (nI 0), .int (nI idl), .int (nI 31), .int (nI 5), .int la])), (ob, .inr (3, [.int (nI src), .ref ga, .int (nI gl), .ref fa, .int (nI ff), .int (nI fc)]))]) D (va_A [(h0, .inr (6, [.ref ob, .ref sc, .ref gr, .int gc, .int gn, .int (nI 0), .int (nI idl), .int g, .int bl, .int la])), (ob, .inr (3, [.int (nI src), .ref ga, .int (nI gl), .ref fa, .int (nI ff), .int (nI fc)]))] sz)) 0 0 (va_A [(h0, .inr (6, [.ref ob, .ref sc, .ref gr, .int gc, .int gn, .int (nI 0), .int (nI idl), .int g, .int bl, .int la])), (ob, .inr (3, [.int (nI src), .ref ga, .int (nI gl), .ref fa, .int (nI ff), .int (nI fc)]))] sz) := by
  refine ct_of (y := yX6_chooseGroup) (cc := cX6_chooseGroup) (maxL := 1) (ret := none) (Qf := QV (fun (u : Unit) => True) (fun (u : Unit) => [(h0, .inr (6, [.ref ob, .ref sc, .ref gr, .int gc, .int gn, .int (nI 0), .int (nI idl), .int (nI 31), .int (nI 5), .int la])), (ob, .inr (3, [.int (nI src), .ref ga, .int (nI gl), .ref fa, .int (nI ff), .int (nI fc)]))]) D) (by decide) rfl ?_
  intro p e s m args below meth c A Q R H locs hR hQ hx hb hml hr hts hown hlocks hin hP hD hE hT hA hS
  have hK := hE.1
  have hl := lv_entry ([.ref h0]) (n := 1) (Nat.le_of_ble_eq_true rfl)
  rw [lg_entry_eq]
  generalize (lg_sl ([.ref h0]) ++ List.replicate (1 - (lg_sl ([.ref h0])).length) Slot.unset).toArray = ls at hl ⊢
  have hl : lv_has ls 1 [(0, .ref h0)] := hl
  refine lv_aload_n hx hb dX6_chooseGroup_0 rfl (lv_at hl 0 rfl) ?_
  refine va_get (D := D) (ci := 6) (v := .int (nI 0)) (C := RX6) (T := TX6) (N := 10) hx hb hts inX6_chooseGroup_X6 hown hK hP 0 rfl rfl 5 (by decide) (hts (.fieldLink RX6 22 "ScrambledLine$Sender" "inFrame" "Z") (by decide +kernel)) (fun _ h9 => h9) rfl dX6_chooseGroup_1 ?_
  refine lv_if_ne (tgt := 37) hx hb dX6_chooseGroup_4 (by decide) (fun c4 => ?_) (fun c4 => ?_)
  · skip
    have k4 : ¬ 0 = 0 := fun zq => c4 ((nI_eq (a := 0) (b := 0) (by omega) (by omega)).mpr zq)
    exact False.elim (by omega)
  · skip
    have k4 : 0 = 0 := (nI_eq (a := 0) (b := 0) (by omega) (by omega)).mp c4
    refine lv_aload_n hx hb dX6_chooseGroup_7 rfl (lv_at hl 0 rfl) ?_
    refine va_get (D := D) (ci := 6) (v := .int (nI idl)) (C := RX6) (T := TX6) (N := 10) hx hb hts inX6_chooseGroup_X6 hown hK hP 0 rfl rfl 6 (by decide) (hts (.fieldLink RX6 26 "ScrambledLine$Sender" "idles" "I") (by decide +kernel)) (fun _ h9 => h9) rfl dX6_chooseGroup_8 ?_
    refine lv_bipush (v := nI 6) hx hb dX6_chooseGroup_11 rfl ?_
    refine lv_icmp_lt (tgt := 37) hx hb dX6_chooseGroup_13 (by decide) (fun c13 => ?_) (fun c13 => ?_)
    · skip
      have k13 : idl < 6 := (nI_ltI (a := idl) (b := 6) (by omega) (by omega)).mp c13
      refine lv_aload_n hx hb dX6_chooseGroup_37 rfl (lv_at hl 0 rfl) ?_
      refine lv_aload_n hx hb dX6_chooseGroup_38 rfl (lv_at hl 0 rfl) ?_
      refine va_get (D := D) (ci := 6) (v := .int (nI 0)) (C := RX6) (T := TX6) (N := 10) hx hb hts inX6_chooseGroup_X6 hown hK hP 0 rfl rfl 5 (by decide) (hts (.fieldLink RX6 22 "ScrambledLine$Sender" "inFrame" "Z") (by decide +kernel)) (fun _ h9 => h9) rfl dX6_chooseGroup_39 ?_
      refine lv_if_eq (tgt := 66) hx hb dX6_chooseGroup_42 (by decide) (fun c42 => ?_) (fun c42 => ?_)
      · skip
        have k42 : 0 = 0 := (nI_eq (a := 0) (b := 0) (by omega) (by omega)).mp c42
        refine lv_bipush (v := nI 31) hx hb dX6_chooseGroup_66 rfl ?_
        refine va_put (D := D) (ci := 6) (v := .int (nI 31)) (ty := .int) (C := RX6) (T := TX6) (N := 10) hx hb hts inX6_chooseGroup_X6 tyX6 tyX6_ok nmX6 hown hK hP hD hS 0 rfl rfl 7 (by decide) (hts (.fieldLink RX6 29 "ScrambledLine$Sender" "group" "I") (by decide +kernel)) (fun _ h9 => h9) rfl (by decide +kernel) rfl rfl (Nat.le_of_ble_eq_true rfl) dX6_chooseGroup_68 (fun H locs hP hD hS => ?_)
        have hP : va_P D vwCl [(h0, .inr (6, [.ref ob, .ref sc, .ref gr, .int gc, .int gn, .int (nI 0), .int (nI idl), .int (nI 31), .int bl, .int la])), (ob, .inr (3, [.int (nI src), .ref ga, .int (nI gl), .ref fa, .int (nI ff), .int (nI fc)]))] H := hP
        have hD : va_D A [(h0, .inr (6, [.ref ob, .ref sc, .ref gr, .int gc, .int gn, .int (nI 0), .int (nI idl), .int (nI 31), .int bl, .int la])), (ob, .inr (3, [.int (nI src), .ref ga, .int (nI gl), .ref fa, .int (nI ff), .int (nI fc)]))] := hD
        refine lv_aload_n hx hb dX6_chooseGroup_71 rfl (lv_at hl 0 rfl) ?_
        refine lv_iconst (v := nI 5) hx hb dX6_chooseGroup_72 rfl ?_
        refine va_put (D := D) (ci := 6) (v := .int (nI 5)) (ty := .int) (C := RX6) (T := TX6) (N := 10) hx hb hts inX6_chooseGroup_X6 tyX6 tyX6_ok nmX6 hown hK hP hD hS 0 rfl rfl 8 (by decide) (hts (.fieldLink RX6 32 "ScrambledLine$Sender" "bitsLeft" "I") (by decide +kernel)) (fun _ h9 => h9) rfl (by decide +kernel) rfl rfl (Nat.le_of_ble_eq_true rfl) dX6_chooseGroup_73 (fun H locs hP hD hS => ?_)
        have hP : va_P D vwCl [(h0, .inr (6, [.ref ob, .ref sc, .ref gr, .int gc, .int gn, .int (nI 0), .int (nI idl), .int (nI 31), .int (nI 5), .int la])), (ob, .inr (3, [.int (nI src), .ref ga, .int (nI gl), .ref fa, .int (nI ff), .int (nI fc)]))] H := hP
        have hD : va_D A [(h0, .inr (6, [.ref ob, .ref sc, .ref gr, .int gc, .int gn, .int (nI 0), .int (nI idl), .int (nI 31), .int (nI 5), .int la])), (ob, .inr (3, [.int (nI src), .ref ga, .int (nI gl), .ref fa, .int (nI ff), .int (nI fc)]))] := hD
        refine W_q hQ ?_
        exact rt_v () hx hb hr hlocks dX6_chooseGroup_76 hS hP hD trivial
      · skip
        have k42 : ¬ 0 = 0 := fun zq => c42 ((nI_eq (a := 0) (b := 0) (by omega) (by omega)).mpr zq)
        exact False.elim (by omega)
    · skip
      have k13 : ¬ idl < 6 := fun zq => c13 ((nI_ltI (a := idl) (b := 6) (by omega) (by omega)).mpr zq)
      refine lv_aload_n hx hb dX6_chooseGroup_16 rfl (lv_at hl 0 rfl) ?_
      refine va_get (D := D) (ci := 6) (v := .ref ob) (C := RX6) (T := TX6) (N := 10) hx hb hts inX6_chooseGroup_X6 hown hK hP 0 rfl rfl 0 (by decide) (hts (.fieldLink RX6 56 "ScrambledLine$Sender" "outbox" "LScrambledLine$Outbox;") (by decide +kernel)) (fun _ h9 => h9) rfl dX6_chooseGroup_17 ?_
      refine va_getN (D := D) (ci := 3) (v := .int (nI fc)) (C := RX3) (T := TX3) (N := 6) (ref := "ScrambledLine$Outbox") hx hb hts inX6_chooseGroup_X3 hown hK hP 1 rfl rfl 5 (by decide) (hE.2.1.fX6_76) (fun _ h9 => h9) rfl dX6_chooseGroup_20 ?_
      refine lv_if_le (tgt := 37) hx hb dX6_chooseGroup_23 (by decide) (fun c23 => ?_) (fun c23 => ?_)
      · skip
        have k23 : fc ≤ 0 := (nI_leI (a := fc) (b := 0) (by omega) (by omega)).mp c23
        refine lv_aload_n hx hb dX6_chooseGroup_37 rfl (lv_at hl 0 rfl) ?_
        refine lv_aload_n hx hb dX6_chooseGroup_38 rfl (lv_at hl 0 rfl) ?_
        refine va_get (D := D) (ci := 6) (v := .int (nI 0)) (C := RX6) (T := TX6) (N := 10) hx hb hts inX6_chooseGroup_X6 hown hK hP 0 rfl rfl 5 (by decide) (hts (.fieldLink RX6 22 "ScrambledLine$Sender" "inFrame" "Z") (by decide +kernel)) (fun _ h9 => h9) rfl dX6_chooseGroup_39 ?_
        refine lv_if_eq (tgt := 66) hx hb dX6_chooseGroup_42 (by decide) (fun c42 => ?_) (fun c42 => ?_)
        · skip
          have k42 : 0 = 0 := (nI_eq (a := 0) (b := 0) (by omega) (by omega)).mp c42
          refine lv_bipush (v := nI 31) hx hb dX6_chooseGroup_66 rfl ?_
          refine va_put (D := D) (ci := 6) (v := .int (nI 31)) (ty := .int) (C := RX6) (T := TX6) (N := 10) hx hb hts inX6_chooseGroup_X6 tyX6 tyX6_ok nmX6 hown hK hP hD hS 0 rfl rfl 7 (by decide) (hts (.fieldLink RX6 29 "ScrambledLine$Sender" "group" "I") (by decide +kernel)) (fun _ h9 => h9) rfl (by decide +kernel) rfl rfl (Nat.le_of_ble_eq_true rfl) dX6_chooseGroup_68 (fun H locs hP hD hS => ?_)
          have hP : va_P D vwCl [(h0, .inr (6, [.ref ob, .ref sc, .ref gr, .int gc, .int gn, .int (nI 0), .int (nI idl), .int (nI 31), .int bl, .int la])), (ob, .inr (3, [.int (nI src), .ref ga, .int (nI gl), .ref fa, .int (nI ff), .int (nI fc)]))] H := hP
          have hD : va_D A [(h0, .inr (6, [.ref ob, .ref sc, .ref gr, .int gc, .int gn, .int (nI 0), .int (nI idl), .int (nI 31), .int bl, .int la])), (ob, .inr (3, [.int (nI src), .ref ga, .int (nI gl), .ref fa, .int (nI ff), .int (nI fc)]))] := hD
          refine lv_aload_n hx hb dX6_chooseGroup_71 rfl (lv_at hl 0 rfl) ?_
          refine lv_iconst (v := nI 5) hx hb dX6_chooseGroup_72 rfl ?_
          refine va_put (D := D) (ci := 6) (v := .int (nI 5)) (ty := .int) (C := RX6) (T := TX6) (N := 10) hx hb hts inX6_chooseGroup_X6 tyX6 tyX6_ok nmX6 hown hK hP hD hS 0 rfl rfl 8 (by decide) (hts (.fieldLink RX6 32 "ScrambledLine$Sender" "bitsLeft" "I") (by decide +kernel)) (fun _ h9 => h9) rfl (by decide +kernel) rfl rfl (Nat.le_of_ble_eq_true rfl) dX6_chooseGroup_73 (fun H locs hP hD hS => ?_)
          have hP : va_P D vwCl [(h0, .inr (6, [.ref ob, .ref sc, .ref gr, .int gc, .int gn, .int (nI 0), .int (nI idl), .int (nI 31), .int (nI 5), .int la])), (ob, .inr (3, [.int (nI src), .ref ga, .int (nI gl), .ref fa, .int (nI ff), .int (nI fc)]))] H := hP
          have hD : va_D A [(h0, .inr (6, [.ref ob, .ref sc, .ref gr, .int gc, .int gn, .int (nI 0), .int (nI idl), .int (nI 31), .int (nI 5), .int la])), (ob, .inr (3, [.int (nI src), .ref ga, .int (nI gl), .ref fa, .int (nI ff), .int (nI fc)]))] := hD
          refine W_q hQ ?_
          exact rt_v () hx hb hr hlocks dX6_chooseGroup_76 hS hP hD trivial
        · skip
          have k42 : ¬ 0 = 0 := fun zq => c42 ((nI_eq (a := 0) (b := 0) (by omega) (by omega)).mpr zq)
          exact False.elim (by omega)
      · skip
        have k23 : ¬ fc ≤ 0 := fun zq => c23 ((nI_leI (a := fc) (b := 0) (by omega) (by omega)).mpr zq)
        exact False.elim (by omega)

set_option maxHeartbeats 4000000 in
set_option maxRecDepth 100000 in
theorem c_X6_chooseGroup_next (l : Launch) (D : va_G) (cI cG : ClassId) (tt : Nat × Nat × Nat) (sz : Nat) (h0 : Nat) (ob : Nat) (sc : Nat) (gr : Nat) (gc : Int32) (gn : Nat) (idl : Int32) (g : Int32) (bl : Int32) (la : Int32) (ga : Nat) (fa : Nat) (src : Nat) (gl : Nat) (ff : Nat) (fc : Nat) (gf : Nat → Int32) (w : Nat) (hk : gn < 70) (hw : gf gn = nI w) : Met l yX6_chooseGroup wsX6_chooseGroup ({ frames := 3, cells := 0, slots := 0, locals := 57 }) (PC D cI cG tt [.ref h0] [(h0, .inr (6, [.ref ob, .ref sc, .ref gr, .int gc, .int (nI gn), .int (nI 1), .int idl, .int g, .int bl, .int la])), (ob, .inr (3, [.int (nI src), .ref ga, .int (nI gl), .ref fa, .int (nI ff), .int (nI fc)])), (gr, .inl (cI, 70, .inl gf))] sz) (QV (fun (u : Unit) => True) (fun (u : Unit) => [(h0, .inr (6, [.ref ob, .ref sc, .ref gr, .int gc, .int (nI gn), .int (nI 1), .int idl, .int (nI w), .int (nI 5), .int la])), (ob, .inr (3, [.int (nI src), .ref ga, .int (nI gl), .ref fa, .int (nI ff), .int (nI fc)])), (gr, .inl (cI, 70, .inl gf))]) D (va_A [(h0, .inr (6, [.ref ob, .ref sc, .ref gr, .int gc, .int (nI gn), .int (nI 1), .int idl, .int g, .int bl, .int la])), (ob, .inr (3, [.int (nI src), .ref ga, .int (nI gl), .ref fa, .int (nI ff), .int (nI fc)])), (gr, .inl (cI, 70, .inl gf))] sz)) 0 0 (va_A [(h0, .inr (6, [.ref ob, .ref sc, .ref gr, .int gc, .int (nI gn), .int (nI 1), .int idl, .int g, .int bl, .int la])), (ob, .inr (3, [.int (nI src), .ref ga, .int (nI gl), .ref fa, .int (nI ff), .int (nI fc)])), (gr, .inl (cI, 70, .inl gf))] sz) := by
  refine ct_of (y := yX6_chooseGroup) (cc := cX6_chooseGroup) (maxL := 1) (ret := none) (Qf := QV (fun (u : Unit) => True) (fun (u : Unit) => [(h0, .inr (6, [.ref ob, .ref sc, .ref gr, .int gc, .int (nI gn), .int (nI 1), .int idl, .int (nI w), .int (nI 5), .int la])), (ob, .inr (3, [.int (nI src), .ref ga, .int (nI gl), .ref fa, .int (nI ff), .int (nI fc)])), (gr, .inl (cI, 70, .inl gf))]) D) (by decide) rfl ?_
  intro p e s m args below meth c A Q R H locs hR hQ hx hb hml hr hts hown hlocks hin hP hD hE hT hA hS
  have hK := hE.1
  have hl := lv_entry ([.ref h0]) (n := 1) (Nat.le_of_ble_eq_true rfl)
  rw [lg_entry_eq]
  generalize (lg_sl ([.ref h0]) ++ List.replicate (1 - (lg_sl ([.ref h0])).length) Slot.unset).toArray = ls at hl ⊢
  have hl : lv_has ls 1 [(0, .ref h0)] := hl
  refine lv_aload_n hx hb dX6_chooseGroup_0 rfl (lv_at hl 0 rfl) ?_
  refine va_get (D := D) (ci := 6) (v := .int (nI 1)) (C := RX6) (T := TX6) (N := 10) hx hb hts inX6_chooseGroup_X6 hown hK hP 0 rfl rfl 5 (by decide) (hts (.fieldLink RX6 22 "ScrambledLine$Sender" "inFrame" "Z") (by decide +kernel)) (fun _ h9 => h9) rfl dX6_chooseGroup_1 ?_
  refine lv_if_ne (tgt := 37) hx hb dX6_chooseGroup_4 (by decide) (fun c4 => ?_) (fun c4 => ?_)
  · skip
    have k4 : ¬ 1 = 0 := fun zq => c4 ((nI_eq (a := 1) (b := 0) (by omega) (by omega)).mpr zq)
    refine lv_aload_n hx hb dX6_chooseGroup_37 rfl (lv_at hl 0 rfl) ?_
    refine lv_aload_n hx hb dX6_chooseGroup_38 rfl (lv_at hl 0 rfl) ?_
    refine va_get (D := D) (ci := 6) (v := .int (nI 1)) (C := RX6) (T := TX6) (N := 10) hx hb hts inX6_chooseGroup_X6 hown hK hP 0 rfl rfl 5 (by decide) (hts (.fieldLink RX6 22 "ScrambledLine$Sender" "inFrame" "Z") (by decide +kernel)) (fun _ h9 => h9) rfl dX6_chooseGroup_39 ?_
    refine lv_if_eq (tgt := 66) hx hb dX6_chooseGroup_42 (by decide) (fun c42 => ?_) (fun c42 => ?_)
    · skip
      have k42 : 1 = 0 := (nI_eq (a := 1) (b := 0) (by omega) (by omega)).mp c42
      exact False.elim (by omega)
    · skip
      have k42 : ¬ 1 = 0 := fun zq => c42 ((nI_eq (a := 1) (b := 0) (by omega) (by omega)).mpr zq)
      refine lv_aload_n hx hb dX6_chooseGroup_45 rfl (lv_at hl 0 rfl) ?_
      refine va_get (D := D) (ci := 6) (v := .int (nI gn)) (C := RX6) (T := TX6) (N := 10) hx hb hts inX6_chooseGroup_X6 hown hK hP 0 rfl rfl 4 (by decide) (hts (.fieldLink RX6 19 "ScrambledLine$Sender" "groupsSent" "I") (by decide +kernel)) (fun _ h9 => h9) rfl dX6_chooseGroup_46 ?_
      refine lv_bipush (v := nI 70) hx hb dX6_chooseGroup_49 rfl ?_
      refine lv_icmp_ge (tgt := 66) hx hb dX6_chooseGroup_51 (by decide) (fun c51 => ?_) (fun c51 => ?_)
      · skip
        have k51 : 70 ≤ gn := (nI_leI (a := 70) (b := gn) (by omega) (by omega)).mp c51
        exact False.elim (by omega)
      · skip
        have k51 : ¬ 70 ≤ gn := fun zq => c51 ((nI_leI (a := 70) (b := gn) (by omega) (by omega)).mpr zq)
        refine lv_aload_n hx hb dX6_chooseGroup_54 rfl (lv_at hl 0 rfl) ?_
        refine va_get (D := D) (ci := 6) (v := .ref gr) (C := RX6) (T := TX6) (N := 10) hx hb hts inX6_chooseGroup_X6 hown hK hP 0 rfl rfl 2 (by decide) (hts (.fieldLink RX6 11 "ScrambledLine$Sender" "groups" "[I") (by decide +kernel)) (fun _ h9 => h9) rfl dX6_chooseGroup_55 ?_
        refine lv_aload_n hx hb dX6_chooseGroup_58 rfl (lv_at hl 0 rfl) ?_
        refine va_get (D := D) (ci := 6) (v := .int (nI gn)) (C := RX6) (T := TX6) (N := 10) hx hb hts inX6_chooseGroup_X6 hown hK hP 0 rfl rfl 4 (by decide) (hts (.fieldLink RX6 19 "ScrambledLine$Sender" "groupsSent" "I") (by decide +kernel)) (fun _ h9 => h9) rfl dX6_chooseGroup_59 ?_
        refine gl_i hx hb hK hP 2 rfl (i := gn) (by omega) (by first | decide | omega) dX6_chooseGroup_62 ?_
        refine lv_to (y := nI w) (hw) ?_
        refine lv_goto (tgt := 68) hx hb dX6_chooseGroup_63 (by decide) ?_
        refine va_put (D := D) (ci := 6) (v := .int (nI w)) (ty := .int) (C := RX6) (T := TX6) (N := 10) hx hb hts inX6_chooseGroup_X6 tyX6 tyX6_ok nmX6 hown hK hP hD hS 0 rfl rfl 7 (by decide) (hts (.fieldLink RX6 29 "ScrambledLine$Sender" "group" "I") (by decide +kernel)) (fun _ h9 => h9) rfl (by decide +kernel) rfl rfl (Nat.le_of_ble_eq_true rfl) dX6_chooseGroup_68 (fun H locs hP hD hS => ?_)
        have hP : va_P D vwCl [(h0, .inr (6, [.ref ob, .ref sc, .ref gr, .int gc, .int (nI gn), .int (nI 1), .int idl, .int (nI w), .int bl, .int la])), (ob, .inr (3, [.int (nI src), .ref ga, .int (nI gl), .ref fa, .int (nI ff), .int (nI fc)])), (gr, .inl (cI, 70, .inl gf))] H := hP
        have hD : va_D A [(h0, .inr (6, [.ref ob, .ref sc, .ref gr, .int gc, .int (nI gn), .int (nI 1), .int idl, .int (nI w), .int bl, .int la])), (ob, .inr (3, [.int (nI src), .ref ga, .int (nI gl), .ref fa, .int (nI ff), .int (nI fc)])), (gr, .inl (cI, 70, .inl gf))] := hD
        refine lv_aload_n hx hb dX6_chooseGroup_71 rfl (lv_at hl 0 rfl) ?_
        refine lv_iconst (v := nI 5) hx hb dX6_chooseGroup_72 rfl ?_
        refine va_put (D := D) (ci := 6) (v := .int (nI 5)) (ty := .int) (C := RX6) (T := TX6) (N := 10) hx hb hts inX6_chooseGroup_X6 tyX6 tyX6_ok nmX6 hown hK hP hD hS 0 rfl rfl 8 (by decide) (hts (.fieldLink RX6 32 "ScrambledLine$Sender" "bitsLeft" "I") (by decide +kernel)) (fun _ h9 => h9) rfl (by decide +kernel) rfl rfl (Nat.le_of_ble_eq_true rfl) dX6_chooseGroup_73 (fun H locs hP hD hS => ?_)
        have hP : va_P D vwCl [(h0, .inr (6, [.ref ob, .ref sc, .ref gr, .int gc, .int (nI gn), .int (nI 1), .int idl, .int (nI w), .int (nI 5), .int la])), (ob, .inr (3, [.int (nI src), .ref ga, .int (nI gl), .ref fa, .int (nI ff), .int (nI fc)])), (gr, .inl (cI, 70, .inl gf))] H := hP
        have hD : va_D A [(h0, .inr (6, [.ref ob, .ref sc, .ref gr, .int gc, .int (nI gn), .int (nI 1), .int idl, .int (nI w), .int (nI 5), .int la])), (ob, .inr (3, [.int (nI src), .ref ga, .int (nI gl), .ref fa, .int (nI ff), .int (nI fc)])), (gr, .inl (cI, 70, .inl gf))] := hD
        refine W_q hQ ?_
        exact rt_v () hx hb hr hlocks dX6_chooseGroup_76 hS hP hD trivial
  · skip
    have k4 : 1 = 0 := (nI_eq (a := 1) (b := 0) (by omega) (by omega)).mp c4
    exact False.elim (by omega)

set_option maxHeartbeats 4000000 in
set_option maxRecDepth 100000 in
theorem c_X6_chooseGroup_frame (l : Launch) (D : va_G) (cI cG : ClassId) (tt : Nat × Nat × Nat) (sz : Nat) (h0 : Nat) (ob : Nat) (sc : Nat) (gr : Nat) (gc : Int32) (gn : Int32) (idl : Nat) (g : Int32) (bl : Int32) (la : Int32) (ga : Nat) (fa : Nat) (src : Nat) (gl : Nat) (ff : Nat) (fc : Nat) (r0 : Nat) (r1 : Nat) (r2 : Nat) (r3 : Nat) (Rw : Nat → Nat → Int32) (gf : Nat → Int32) (q : Nat → Nat) (hi : 6 ≤ idl) (hid : idl ≤ 6) (hf0 : 0 < fc) (hfc : fc ≤ 4) (hff : ff < 4) (hs : src < 256) (hQ0 : QRel src ff fc q Rw) (hW : QW fc q) : Met l yX6_chooseGroup wsX6_chooseGroup ({ frames := 3, cells := 0, slots := 0, locals := 57 }) (PC D cI cG tt [.ref h0] [(h0, .inr (6, [.ref ob, .ref sc, .ref gr, .int gc, .int gn, .int (nI 0), .int (nI idl), .int g, .int bl, .int la])), (ob, .inr (3, [.int (nI src), .ref ga, .int (nI gl), .ref fa, .int (nI ff), .int (nI fc)])), (fa, .inl (cG, 4, .inr (.inr (.inr (.inr (gq4 r0 r1 r2 r3)))))), (r0, .inl (cI, 31, .inl (Rw 0))), (r1, .inl (cI, 31, .inl (Rw 1))), (r2, .inl (cI, 31, .inl (Rw 2))), (r3, .inl (cI, 31, .inl (Rw 3))), (gr, .inl (cI, 70, .inl gf))] sz) (QV (fun (u : (Nat → Int32)) => match u with | gf2 => GR (qB src q 0) (fsz (q 1) + 4) gf2 (2 * (fsz (q 1) + 4) + 8)) (fun (u : (Nat → Int32)) => match u with | gf2 => [(h0, .inr (6, [.ref ob, .ref sc, .ref gr, .int (nI (2 * (fsz (q 1) + 4) + 8)), .int (nI 0), .int (nI 1), .int (nI idl), .int (nI 24), .int (nI 5), .int la])), (ob, .inr (3, [.int (nI src), .ref ga, .int (nI gl), .ref fa, .int (nI ((ff + 1) % 4)), .int (nI (fc - 1))])), (fa, .inl (cG, 4, .inr (.inr (.inr (.inr (gq4 r0 r1 r2 r3)))))), (r0, .inl (cI, 31, .inl (Rw 0))), (r1, .inl (cI, 31, .inl (Rw 1))), (r2, .inl (cI, 31, .inl (Rw 2))), (r3, .inl (cI, 31, .inl (Rw 3))), (gr, .inl (cI, 70, .inl gf2))]) D (va_A [(h0, .inr (6, [.ref ob, .ref sc, .ref gr, .int gc, .int gn, .int (nI 0), .int (nI idl), .int g, .int bl, .int la])), (ob, .inr (3, [.int (nI src), .ref ga, .int (nI gl), .ref fa, .int (nI ff), .int (nI fc)])), (fa, .inl (cG, 4, .inr (.inr (.inr (.inr (gq4 r0 r1 r2 r3)))))), (r0, .inl (cI, 31, .inl (Rw 0))), (r1, .inl (cI, 31, .inl (Rw 1))), (r2, .inl (cI, 31, .inl (Rw 2))), (r3, .inl (cI, 31, .inl (Rw 3))), (gr, .inl (cI, 70, .inl gf))] sz)) 0 0 (va_A [(h0, .inr (6, [.ref ob, .ref sc, .ref gr, .int gc, .int gn, .int (nI 0), .int (nI idl), .int g, .int bl, .int la])), (ob, .inr (3, [.int (nI src), .ref ga, .int (nI gl), .ref fa, .int (nI ff), .int (nI fc)])), (fa, .inl (cG, 4, .inr (.inr (.inr (.inr (gq4 r0 r1 r2 r3)))))), (r0, .inl (cI, 31, .inl (Rw 0))), (r1, .inl (cI, 31, .inl (Rw 1))), (r2, .inl (cI, 31, .inl (Rw 2))), (r3, .inl (cI, 31, .inl (Rw 3))), (gr, .inl (cI, 70, .inl gf))] sz) := by
  refine ct_of (y := yX6_chooseGroup) (cc := cX6_chooseGroup) (maxL := 1) (ret := none) (Qf := QV (fun (u : (Nat → Int32)) => match u with | gf2 => GR (qB src q 0) (fsz (q 1) + 4) gf2 (2 * (fsz (q 1) + 4) + 8)) (fun (u : (Nat → Int32)) => match u with | gf2 => [(h0, .inr (6, [.ref ob, .ref sc, .ref gr, .int (nI (2 * (fsz (q 1) + 4) + 8)), .int (nI 0), .int (nI 1), .int (nI idl), .int (nI 24), .int (nI 5), .int la])), (ob, .inr (3, [.int (nI src), .ref ga, .int (nI gl), .ref fa, .int (nI ((ff + 1) % 4)), .int (nI (fc - 1))])), (fa, .inl (cG, 4, .inr (.inr (.inr (.inr (gq4 r0 r1 r2 r3)))))), (r0, .inl (cI, 31, .inl (Rw 0))), (r1, .inl (cI, 31, .inl (Rw 1))), (r2, .inl (cI, 31, .inl (Rw 2))), (r3, .inl (cI, 31, .inl (Rw 3))), (gr, .inl (cI, 70, .inl gf2))]) D) (by decide) rfl ?_
  intro p e s m args below meth c A Q R H locs hR hQ hx hb hml hr hts hown hlocks hin hP hD hE hT hA hS
  have hK := hE.1
  have hl := lv_entry ([.ref h0]) (n := 1) (Nat.le_of_ble_eq_true rfl)
  rw [lg_entry_eq]
  generalize (lg_sl ([.ref h0]) ++ List.replicate (1 - (lg_sl ([.ref h0])).length) Slot.unset).toArray = ls at hl ⊢
  have hl : lv_has ls 1 [(0, .ref h0)] := hl
  have hq1 : q 1 ≤ 24 := (hW 0 (by omega)).2.1
  refine lv_aload_n hx hb dX6_chooseGroup_0 rfl (lv_at hl 0 rfl) ?_
  refine va_get (D := D) (ci := 6) (v := .int (nI 0)) (C := RX6) (T := TX6) (N := 10) hx hb hts inX6_chooseGroup_X6 hown hK hP 0 rfl rfl 5 (by decide) (hts (.fieldLink RX6 22 "ScrambledLine$Sender" "inFrame" "Z") (by decide +kernel)) (fun _ h9 => h9) rfl dX6_chooseGroup_1 ?_
  refine lv_if_ne (tgt := 37) hx hb dX6_chooseGroup_4 (by decide) (fun c4 => ?_) (fun c4 => ?_)
  · skip
    have k4 : ¬ 0 = 0 := fun zq => c4 ((nI_eq (a := 0) (b := 0) (by omega) (by omega)).mpr zq)
    exact False.elim (by omega)
  · skip
    have k4 : 0 = 0 := (nI_eq (a := 0) (b := 0) (by omega) (by omega)).mp c4
    refine lv_aload_n hx hb dX6_chooseGroup_7 rfl (lv_at hl 0 rfl) ?_
    refine va_get (D := D) (ci := 6) (v := .int (nI idl)) (C := RX6) (T := TX6) (N := 10) hx hb hts inX6_chooseGroup_X6 hown hK hP 0 rfl rfl 6 (by decide) (hts (.fieldLink RX6 26 "ScrambledLine$Sender" "idles" "I") (by decide +kernel)) (fun _ h9 => h9) rfl dX6_chooseGroup_8 ?_
    refine lv_bipush (v := nI 6) hx hb dX6_chooseGroup_11 rfl ?_
    refine lv_icmp_lt (tgt := 37) hx hb dX6_chooseGroup_13 (by decide) (fun c13 => ?_) (fun c13 => ?_)
    · skip
      have k13 : idl < 6 := (nI_ltI (a := idl) (b := 6) (by omega) (by omega)).mp c13
      exact False.elim (by omega)
    · skip
      have k13 : ¬ idl < 6 := fun zq => c13 ((nI_ltI (a := idl) (b := 6) (by omega) (by omega)).mpr zq)
      refine lv_aload_n hx hb dX6_chooseGroup_16 rfl (lv_at hl 0 rfl) ?_
      refine va_get (D := D) (ci := 6) (v := .ref ob) (C := RX6) (T := TX6) (N := 10) hx hb hts inX6_chooseGroup_X6 hown hK hP 0 rfl rfl 0 (by decide) (hts (.fieldLink RX6 56 "ScrambledLine$Sender" "outbox" "LScrambledLine$Outbox;") (by decide +kernel)) (fun _ h9 => h9) rfl dX6_chooseGroup_17 ?_
      refine va_getN (D := D) (ci := 3) (v := .int (nI fc)) (C := RX3) (T := TX3) (N := 6) (ref := "ScrambledLine$Outbox") hx hb hts inX6_chooseGroup_X3 hown hK hP 1 rfl rfl 5 (by decide) (hE.2.1.fX6_76) (fun _ h9 => h9) rfl dX6_chooseGroup_20 ?_
      refine lv_if_le (tgt := 37) hx hb dX6_chooseGroup_23 (by decide) (fun c23 => ?_) (fun c23 => ?_)
      · skip
        have k23 : fc ≤ 0 := (nI_leI (a := fc) (b := 0) (by omega) (by omega)).mp c23
        exact False.elim (by omega)
      · skip
        have k23 : ¬ fc ≤ 0 := fun zq => c23 ((nI_leI (a := fc) (b := 0) (by omega) (by omega)).mpr zq)
        refine lv_aload_n hx hb dX6_chooseGroup_26 rfl (lv_at hl 0 rfl) ?_
        refine lv_aload_n hx hb dX6_chooseGroup_27 rfl (lv_at hl 0 rfl) ?_
        refine va_get (D := D) (ci := 6) (v := .ref ob) (C := RX6) (T := TX6) (N := 10) hx hb hts inX6_chooseGroup_X6 hown hK hP 0 rfl rfl 0 (by decide) (hts (.fieldLink RX6 56 "ScrambledLine$Sender" "outbox" "LScrambledLine$Outbox;") (by decide +kernel)) (fun _ h9 => h9) rfl dX6_chooseGroup_28 ?_
        refine ca_r (wr := [(h0, .inr (6, [.ref ob, .ref sc, .ref gr, .int gc, .int gn, .int (nI 0), .int (nI idl), .int g, .int bl, .int la])), (r0, .inl (cI, 31, .inl (Rw 0))), (r1, .inl (cI, 31, .inl (Rw 1))), (r2, .inl (cI, 31, .inl (Rw 2))), (r3, .inl (cI, 31, .inl (Rw 3))), (gr, .inl (cI, 70, .inl gf))]) (ru_V (As := []) (rest := [.ref h0]) ⟨hx, hb, hml, hown, hts⟩ (c_X3_takeFirst l D cI cG tt H.size ob ga fa src gl ff fc r0 r1 r2 r3 (by omega) (by omega) (by omega)) (cwV 0 hts gX6_chooseGroup_X3_takeFirst rfl rfl rfl (by decide +kernel) ⟨by rw [hR]; exact Nat.le_of_ble_eq_true rfl, by rw [hR]; exact Nat.le_of_ble_eq_true rfl⟩) hP hD hE hT hS hA [1, 2] rfl (by decide) (va_recv hK hP (ci := 3) (q0 := 1) rfl rfl) rfl hl.1 rfl (Nat.le_of_ble_eq_true rfl) dX6_chooseGroup_31 ⟨by rw [hR]; exact Nat.le_of_ble_eq_true rfl, by rw [hR]; exact Nat.le_of_ble_eq_true rfl⟩) hP hD hS hA [1, 2] [0, 3, 4, 5, 6, 7] rfl rfl (by decide) (by decide) (fun r31 u H locs hw hP hD hS => ?_)
        obtain rfl := hw
        have hP : va_P D vwCl [(h0, .inr (6, [.ref ob, .ref sc, .ref gr, .int gc, .int gn, .int (nI 0), .int (nI idl), .int g, .int bl, .int la])), (r0, .inl (cI, 31, .inl (Rw 0))), (r1, .inl (cI, 31, .inl (Rw 1))), (r2, .inl (cI, 31, .inl (Rw 2))), (r3, .inl (cI, 31, .inl (Rw 3))), (gr, .inl (cI, 70, .inl gf)), (ob, .inr (3, [.int (nI src), .ref ga, .int (nI gl), .ref fa, .int (nI ((ff + 1) % 4)), .int (nI (fc - 1))])), (fa, .inl (cG, 4, .inr (.inr (.inr (.inr (gq4 r0 r1 r2 r3))))))] H := hP
        have hD : va_D A [(h0, .inr (6, [.ref ob, .ref sc, .ref gr, .int gc, .int gn, .int (nI 0), .int (nI idl), .int g, .int bl, .int la])), (r0, .inl (cI, 31, .inl (Rw 0))), (r1, .inl (cI, 31, .inl (Rw 1))), (r2, .inl (cI, 31, .inl (Rw 2))), (r3, .inl (cI, 31, .inl (Rw 3))), (gr, .inl (cI, 70, .inl gf)), (ob, .inr (3, [.int (nI src), .ref ga, .int (nI gl), .ref fa, .int (nI ((ff + 1) % 4)), .int (nI (fc - 1))])), (fa, .inl (cG, 4, .inr (.inr (.inr (.inr (gq4 r0 r1 r2 r3))))))] := hD
        rcases (show ff = 0 ∨ ff = 1 ∨ ff = 2 ∨ ff = 3 by omega) with hk | hk | hk | hk
        · skip
          refine lv_tov (y := .ref r0) (by rw [hk]; rfl) ?_
          refine ca_v (wr := [(r1, .inl (cI, 31, .inl (Rw 1))), (r2, .inl (cI, 31, .inl (Rw 2))), (r3, .inl (cI, 31, .inl (Rw 3))), (ob, .inr (3, [.int (nI src), .ref ga, .int (nI gl), .ref fa, .int (nI ((ff + 1) % 4)), .int (nI (fc - 1))])), (fa, .inl (cG, 4, .inr (.inr (.inr (.inr (gq4 r0 r1 r2 r3))))))]) (ru_V (As := [.ref r0]) (rest := []) ⟨hx, hb, hml, hown, hts⟩ (c_X6_beginFrame l D cI cG tt H.size h0 ob sc gr gc gn (nI 0) (nI idl) g bl la gf r0 (Rw 0) (q 1) (qB src q 0) hq1 (Qrow hQ0 hW hf0 hs hk) (qB_2 (by omega))) (cwV 1 hts gX6_chooseGroup_X6_beginFrame rfl rfl rfl (by decide +kernel) ⟨by rw [hR]; exact Nat.le_of_ble_eq_true rfl, by rw [hR]; exact Nat.le_of_ble_eq_true rfl⟩) hP hD hE hT hS hA [0, 5, 1] rfl (by decide) (va_recv hK hP (ci := 6) (q0 := 0) rfl rfl) rfl hl.1 rfl (Nat.le_of_ble_eq_true rfl) dX6_chooseGroup_34 ⟨by rw [hR]; exact Nat.le_of_ble_eq_true rfl, by rw [hR]; exact Nat.le_of_ble_eq_true rfl⟩) hP hD hS hA [0, 5, 1] [2, 3, 4, 6, 7] rfl rfl (by decide) (by decide) (fun u H locs hw hP hD hS => ?_)
          obtain ⟨gf2_34, rfl⟩ : ∃ z, z = u := ⟨_, rfl⟩
          have hgr_34 := hw
          have hP : va_P D vwCl [(r1, .inl (cI, 31, .inl (Rw 1))), (r2, .inl (cI, 31, .inl (Rw 2))), (r3, .inl (cI, 31, .inl (Rw 3))), (ob, .inr (3, [.int (nI src), .ref ga, .int (nI gl), .ref fa, .int (nI ((ff + 1) % 4)), .int (nI (fc - 1))])), (fa, .inl (cG, 4, .inr (.inr (.inr (.inr (gq4 r0 r1 r2 r3)))))), (h0, .inr (6, [.ref ob, .ref sc, .ref gr, .int (nI (2 * (fsz (q 1) + 4) + 8)), .int (nI 0), .int (nI 1), .int (nI idl), .int g, .int bl, .int la])), (gr, .inl (cI, 70, .inl gf2_34)), (r0, .inl (cI, 31, .inl (Rw 0)))] H := hP
          have hD : va_D A [(r1, .inl (cI, 31, .inl (Rw 1))), (r2, .inl (cI, 31, .inl (Rw 2))), (r3, .inl (cI, 31, .inl (Rw 3))), (ob, .inr (3, [.int (nI src), .ref ga, .int (nI gl), .ref fa, .int (nI ((ff + 1) % 4)), .int (nI (fc - 1))])), (fa, .inl (cG, 4, .inr (.inr (.inr (.inr (gq4 r0 r1 r2 r3)))))), (h0, .inr (6, [.ref ob, .ref sc, .ref gr, .int (nI (2 * (fsz (q 1) + 4) + 8)), .int (nI 0), .int (nI 1), .int (nI idl), .int g, .int bl, .int la])), (gr, .inl (cI, 70, .inl gf2_34)), (r0, .inl (cI, 31, .inl (Rw 0)))] := hD
          refine lv_aload_n hx hb dX6_chooseGroup_37 rfl (lv_at hl 0 rfl) ?_
          refine lv_aload_n hx hb dX6_chooseGroup_38 rfl (lv_at hl 0 rfl) ?_
          refine va_get (D := D) (ci := 6) (v := .int (nI 1)) (C := RX6) (T := TX6) (N := 10) hx hb hts inX6_chooseGroup_X6 hown hK hP 5 rfl rfl 5 (by decide) (hts (.fieldLink RX6 22 "ScrambledLine$Sender" "inFrame" "Z") (by decide +kernel)) (fun _ h9 => h9) rfl dX6_chooseGroup_39 ?_
          refine lv_if_eq (tgt := 66) hx hb dX6_chooseGroup_42 (by decide) (fun c42 => ?_) (fun c42 => ?_)
          · skip
            have k42 : 1 = 0 := (nI_eq (a := 1) (b := 0) (by omega) (by omega)).mp c42
            exact False.elim (by omega)
          · skip
            have k42 : ¬ 1 = 0 := fun zq => c42 ((nI_eq (a := 1) (b := 0) (by omega) (by omega)).mpr zq)
            refine lv_aload_n hx hb dX6_chooseGroup_45 rfl (lv_at hl 0 rfl) ?_
            refine va_get (D := D) (ci := 6) (v := .int (nI 0)) (C := RX6) (T := TX6) (N := 10) hx hb hts inX6_chooseGroup_X6 hown hK hP 5 rfl rfl 4 (by decide) (hts (.fieldLink RX6 19 "ScrambledLine$Sender" "groupsSent" "I") (by decide +kernel)) (fun _ h9 => h9) rfl dX6_chooseGroup_46 ?_
            refine lv_bipush (v := nI 70) hx hb dX6_chooseGroup_49 rfl ?_
            refine lv_icmp_ge (tgt := 66) hx hb dX6_chooseGroup_51 (by decide) (fun c51 => ?_) (fun c51 => ?_)
            · skip
              have k51 : 70 ≤ 0 := (nI_leI (a := 70) (b := 0) (by omega) (by omega)).mp c51
              exact False.elim (by omega)
            · skip
              have k51 : ¬ 70 ≤ 0 := fun zq => c51 ((nI_leI (a := 70) (b := 0) (by omega) (by omega)).mpr zq)
              refine lv_aload_n hx hb dX6_chooseGroup_54 rfl (lv_at hl 0 rfl) ?_
              refine va_get (D := D) (ci := 6) (v := .ref gr) (C := RX6) (T := TX6) (N := 10) hx hb hts inX6_chooseGroup_X6 hown hK hP 5 rfl rfl 2 (by decide) (hts (.fieldLink RX6 11 "ScrambledLine$Sender" "groups" "[I") (by decide +kernel)) (fun _ h9 => h9) rfl dX6_chooseGroup_55 ?_
              refine lv_aload_n hx hb dX6_chooseGroup_58 rfl (lv_at hl 0 rfl) ?_
              refine va_get (D := D) (ci := 6) (v := .int (nI 0)) (C := RX6) (T := TX6) (N := 10) hx hb hts inX6_chooseGroup_X6 hown hK hP 5 rfl rfl 4 (by decide) (hts (.fieldLink RX6 19 "ScrambledLine$Sender" "groupsSent" "I") (by decide +kernel)) (fun _ h9 => h9) rfl dX6_chooseGroup_59 ?_
              refine gl_i hx hb hK hP 6 rfl (i := 0) (by omega) (by first | decide | omega) dX6_chooseGroup_62 ?_
              refine lv_to (y := nI 24) (hgr_34 0 (by omega)) ?_
              refine lv_goto (tgt := 68) hx hb dX6_chooseGroup_63 (by decide) ?_
              refine va_put (D := D) (ci := 6) (v := .int (nI 24)) (ty := .int) (C := RX6) (T := TX6) (N := 10) hx hb hts inX6_chooseGroup_X6 tyX6 tyX6_ok nmX6 hown hK hP hD hS 5 rfl rfl 7 (by decide) (hts (.fieldLink RX6 29 "ScrambledLine$Sender" "group" "I") (by decide +kernel)) (fun _ h9 => h9) rfl (by decide +kernel) rfl rfl (Nat.le_of_ble_eq_true rfl) dX6_chooseGroup_68 (fun H locs hP hD hS => ?_)
              have hP : va_P D vwCl [(r1, .inl (cI, 31, .inl (Rw 1))), (r2, .inl (cI, 31, .inl (Rw 2))), (r3, .inl (cI, 31, .inl (Rw 3))), (ob, .inr (3, [.int (nI src), .ref ga, .int (nI gl), .ref fa, .int (nI ((ff + 1) % 4)), .int (nI (fc - 1))])), (fa, .inl (cG, 4, .inr (.inr (.inr (.inr (gq4 r0 r1 r2 r3)))))), (h0, .inr (6, [.ref ob, .ref sc, .ref gr, .int (nI (2 * (fsz (q 1) + 4) + 8)), .int (nI 0), .int (nI 1), .int (nI idl), .int (nI 24), .int bl, .int la])), (gr, .inl (cI, 70, .inl gf2_34)), (r0, .inl (cI, 31, .inl (Rw 0)))] H := hP
              have hD : va_D A [(r1, .inl (cI, 31, .inl (Rw 1))), (r2, .inl (cI, 31, .inl (Rw 2))), (r3, .inl (cI, 31, .inl (Rw 3))), (ob, .inr (3, [.int (nI src), .ref ga, .int (nI gl), .ref fa, .int (nI ((ff + 1) % 4)), .int (nI (fc - 1))])), (fa, .inl (cG, 4, .inr (.inr (.inr (.inr (gq4 r0 r1 r2 r3)))))), (h0, .inr (6, [.ref ob, .ref sc, .ref gr, .int (nI (2 * (fsz (q 1) + 4) + 8)), .int (nI 0), .int (nI 1), .int (nI idl), .int (nI 24), .int bl, .int la])), (gr, .inl (cI, 70, .inl gf2_34)), (r0, .inl (cI, 31, .inl (Rw 0)))] := hD
              refine lv_aload_n hx hb dX6_chooseGroup_71 rfl (lv_at hl 0 rfl) ?_
              refine lv_iconst (v := nI 5) hx hb dX6_chooseGroup_72 rfl ?_
              refine va_put (D := D) (ci := 6) (v := .int (nI 5)) (ty := .int) (C := RX6) (T := TX6) (N := 10) hx hb hts inX6_chooseGroup_X6 tyX6 tyX6_ok nmX6 hown hK hP hD hS 5 rfl rfl 8 (by decide) (hts (.fieldLink RX6 32 "ScrambledLine$Sender" "bitsLeft" "I") (by decide +kernel)) (fun _ h9 => h9) rfl (by decide +kernel) rfl rfl (Nat.le_of_ble_eq_true rfl) dX6_chooseGroup_73 (fun H locs hP hD hS => ?_)
              have hP : va_P D vwCl [(r1, .inl (cI, 31, .inl (Rw 1))), (r2, .inl (cI, 31, .inl (Rw 2))), (r3, .inl (cI, 31, .inl (Rw 3))), (ob, .inr (3, [.int (nI src), .ref ga, .int (nI gl), .ref fa, .int (nI ((ff + 1) % 4)), .int (nI (fc - 1))])), (fa, .inl (cG, 4, .inr (.inr (.inr (.inr (gq4 r0 r1 r2 r3)))))), (h0, .inr (6, [.ref ob, .ref sc, .ref gr, .int (nI (2 * (fsz (q 1) + 4) + 8)), .int (nI 0), .int (nI 1), .int (nI idl), .int (nI 24), .int (nI 5), .int la])), (gr, .inl (cI, 70, .inl gf2_34)), (r0, .inl (cI, 31, .inl (Rw 0)))] H := hP
              have hD : va_D A [(r1, .inl (cI, 31, .inl (Rw 1))), (r2, .inl (cI, 31, .inl (Rw 2))), (r3, .inl (cI, 31, .inl (Rw 3))), (ob, .inr (3, [.int (nI src), .ref ga, .int (nI gl), .ref fa, .int (nI ((ff + 1) % 4)), .int (nI (fc - 1))])), (fa, .inl (cG, 4, .inr (.inr (.inr (.inr (gq4 r0 r1 r2 r3)))))), (h0, .inr (6, [.ref ob, .ref sc, .ref gr, .int (nI (2 * (fsz (q 1) + 4) + 8)), .int (nI 0), .int (nI 1), .int (nI idl), .int (nI 24), .int (nI 5), .int la])), (gr, .inl (cI, 70, .inl gf2_34)), (r0, .inl (cI, 31, .inl (Rw 0)))] := hD
              refine W_q hQ ?_
              exact rt_v gf2_34 hx hb hr hlocks dX6_chooseGroup_76 hS (hP.sub [5, 3, 4, 7, 0, 1, 2, 6] rfl) (hD.sub [5, 3, 4, 7, 0, 1, 2, 6] (by decide) rfl) hgr_34
        · skip
          refine lv_tov (y := .ref r1) (by rw [hk]; rfl) ?_
          refine ca_v (wr := [(r0, .inl (cI, 31, .inl (Rw 0))), (r2, .inl (cI, 31, .inl (Rw 2))), (r3, .inl (cI, 31, .inl (Rw 3))), (ob, .inr (3, [.int (nI src), .ref ga, .int (nI gl), .ref fa, .int (nI ((ff + 1) % 4)), .int (nI (fc - 1))])), (fa, .inl (cG, 4, .inr (.inr (.inr (.inr (gq4 r0 r1 r2 r3))))))]) (ru_V (As := [.ref r1]) (rest := []) ⟨hx, hb, hml, hown, hts⟩ (c_X6_beginFrame l D cI cG tt H.size h0 ob sc gr gc gn (nI 0) (nI idl) g bl la gf r1 (Rw 1) (q 1) (qB src q 0) hq1 (Qrow hQ0 hW hf0 hs hk) (qB_2 (by omega))) (cwV 1 hts gX6_chooseGroup_X6_beginFrame rfl rfl rfl (by decide +kernel) ⟨by rw [hR]; exact Nat.le_of_ble_eq_true rfl, by rw [hR]; exact Nat.le_of_ble_eq_true rfl⟩) hP hD hE hT hS hA [0, 5, 2] rfl (by decide) (va_recv hK hP (ci := 6) (q0 := 0) rfl rfl) rfl hl.1 rfl (Nat.le_of_ble_eq_true rfl) dX6_chooseGroup_34 ⟨by rw [hR]; exact Nat.le_of_ble_eq_true rfl, by rw [hR]; exact Nat.le_of_ble_eq_true rfl⟩) hP hD hS hA [0, 5, 2] [1, 3, 4, 6, 7] rfl rfl (by decide) (by decide) (fun u H locs hw hP hD hS => ?_)
          obtain ⟨gf2_34, rfl⟩ : ∃ z, z = u := ⟨_, rfl⟩
          have hgr_34 := hw
          have hP : va_P D vwCl [(r0, .inl (cI, 31, .inl (Rw 0))), (r2, .inl (cI, 31, .inl (Rw 2))), (r3, .inl (cI, 31, .inl (Rw 3))), (ob, .inr (3, [.int (nI src), .ref ga, .int (nI gl), .ref fa, .int (nI ((ff + 1) % 4)), .int (nI (fc - 1))])), (fa, .inl (cG, 4, .inr (.inr (.inr (.inr (gq4 r0 r1 r2 r3)))))), (h0, .inr (6, [.ref ob, .ref sc, .ref gr, .int (nI (2 * (fsz (q 1) + 4) + 8)), .int (nI 0), .int (nI 1), .int (nI idl), .int g, .int bl, .int la])), (gr, .inl (cI, 70, .inl gf2_34)), (r1, .inl (cI, 31, .inl (Rw 1)))] H := hP
          have hD : va_D A [(r0, .inl (cI, 31, .inl (Rw 0))), (r2, .inl (cI, 31, .inl (Rw 2))), (r3, .inl (cI, 31, .inl (Rw 3))), (ob, .inr (3, [.int (nI src), .ref ga, .int (nI gl), .ref fa, .int (nI ((ff + 1) % 4)), .int (nI (fc - 1))])), (fa, .inl (cG, 4, .inr (.inr (.inr (.inr (gq4 r0 r1 r2 r3)))))), (h0, .inr (6, [.ref ob, .ref sc, .ref gr, .int (nI (2 * (fsz (q 1) + 4) + 8)), .int (nI 0), .int (nI 1), .int (nI idl), .int g, .int bl, .int la])), (gr, .inl (cI, 70, .inl gf2_34)), (r1, .inl (cI, 31, .inl (Rw 1)))] := hD
          refine lv_aload_n hx hb dX6_chooseGroup_37 rfl (lv_at hl 0 rfl) ?_
          refine lv_aload_n hx hb dX6_chooseGroup_38 rfl (lv_at hl 0 rfl) ?_
          refine va_get (D := D) (ci := 6) (v := .int (nI 1)) (C := RX6) (T := TX6) (N := 10) hx hb hts inX6_chooseGroup_X6 hown hK hP 5 rfl rfl 5 (by decide) (hts (.fieldLink RX6 22 "ScrambledLine$Sender" "inFrame" "Z") (by decide +kernel)) (fun _ h9 => h9) rfl dX6_chooseGroup_39 ?_
          refine lv_if_eq (tgt := 66) hx hb dX6_chooseGroup_42 (by decide) (fun c42 => ?_) (fun c42 => ?_)
          · skip
            have k42 : 1 = 0 := (nI_eq (a := 1) (b := 0) (by omega) (by omega)).mp c42
            exact False.elim (by omega)
          · skip
            have k42 : ¬ 1 = 0 := fun zq => c42 ((nI_eq (a := 1) (b := 0) (by omega) (by omega)).mpr zq)
            refine lv_aload_n hx hb dX6_chooseGroup_45 rfl (lv_at hl 0 rfl) ?_
            refine va_get (D := D) (ci := 6) (v := .int (nI 0)) (C := RX6) (T := TX6) (N := 10) hx hb hts inX6_chooseGroup_X6 hown hK hP 5 rfl rfl 4 (by decide) (hts (.fieldLink RX6 19 "ScrambledLine$Sender" "groupsSent" "I") (by decide +kernel)) (fun _ h9 => h9) rfl dX6_chooseGroup_46 ?_
            refine lv_bipush (v := nI 70) hx hb dX6_chooseGroup_49 rfl ?_
            refine lv_icmp_ge (tgt := 66) hx hb dX6_chooseGroup_51 (by decide) (fun c51 => ?_) (fun c51 => ?_)
            · skip
              have k51 : 70 ≤ 0 := (nI_leI (a := 70) (b := 0) (by omega) (by omega)).mp c51
              exact False.elim (by omega)
            · skip
              have k51 : ¬ 70 ≤ 0 := fun zq => c51 ((nI_leI (a := 70) (b := 0) (by omega) (by omega)).mpr zq)
              refine lv_aload_n hx hb dX6_chooseGroup_54 rfl (lv_at hl 0 rfl) ?_
              refine va_get (D := D) (ci := 6) (v := .ref gr) (C := RX6) (T := TX6) (N := 10) hx hb hts inX6_chooseGroup_X6 hown hK hP 5 rfl rfl 2 (by decide) (hts (.fieldLink RX6 11 "ScrambledLine$Sender" "groups" "[I") (by decide +kernel)) (fun _ h9 => h9) rfl dX6_chooseGroup_55 ?_
              refine lv_aload_n hx hb dX6_chooseGroup_58 rfl (lv_at hl 0 rfl) ?_
              refine va_get (D := D) (ci := 6) (v := .int (nI 0)) (C := RX6) (T := TX6) (N := 10) hx hb hts inX6_chooseGroup_X6 hown hK hP 5 rfl rfl 4 (by decide) (hts (.fieldLink RX6 19 "ScrambledLine$Sender" "groupsSent" "I") (by decide +kernel)) (fun _ h9 => h9) rfl dX6_chooseGroup_59 ?_
              refine gl_i hx hb hK hP 6 rfl (i := 0) (by omega) (by first | decide | omega) dX6_chooseGroup_62 ?_
              refine lv_to (y := nI 24) (hgr_34 0 (by omega)) ?_
              refine lv_goto (tgt := 68) hx hb dX6_chooseGroup_63 (by decide) ?_
              refine va_put (D := D) (ci := 6) (v := .int (nI 24)) (ty := .int) (C := RX6) (T := TX6) (N := 10) hx hb hts inX6_chooseGroup_X6 tyX6 tyX6_ok nmX6 hown hK hP hD hS 5 rfl rfl 7 (by decide) (hts (.fieldLink RX6 29 "ScrambledLine$Sender" "group" "I") (by decide +kernel)) (fun _ h9 => h9) rfl (by decide +kernel) rfl rfl (Nat.le_of_ble_eq_true rfl) dX6_chooseGroup_68 (fun H locs hP hD hS => ?_)
              have hP : va_P D vwCl [(r0, .inl (cI, 31, .inl (Rw 0))), (r2, .inl (cI, 31, .inl (Rw 2))), (r3, .inl (cI, 31, .inl (Rw 3))), (ob, .inr (3, [.int (nI src), .ref ga, .int (nI gl), .ref fa, .int (nI ((ff + 1) % 4)), .int (nI (fc - 1))])), (fa, .inl (cG, 4, .inr (.inr (.inr (.inr (gq4 r0 r1 r2 r3)))))), (h0, .inr (6, [.ref ob, .ref sc, .ref gr, .int (nI (2 * (fsz (q 1) + 4) + 8)), .int (nI 0), .int (nI 1), .int (nI idl), .int (nI 24), .int bl, .int la])), (gr, .inl (cI, 70, .inl gf2_34)), (r1, .inl (cI, 31, .inl (Rw 1)))] H := hP
              have hD : va_D A [(r0, .inl (cI, 31, .inl (Rw 0))), (r2, .inl (cI, 31, .inl (Rw 2))), (r3, .inl (cI, 31, .inl (Rw 3))), (ob, .inr (3, [.int (nI src), .ref ga, .int (nI gl), .ref fa, .int (nI ((ff + 1) % 4)), .int (nI (fc - 1))])), (fa, .inl (cG, 4, .inr (.inr (.inr (.inr (gq4 r0 r1 r2 r3)))))), (h0, .inr (6, [.ref ob, .ref sc, .ref gr, .int (nI (2 * (fsz (q 1) + 4) + 8)), .int (nI 0), .int (nI 1), .int (nI idl), .int (nI 24), .int bl, .int la])), (gr, .inl (cI, 70, .inl gf2_34)), (r1, .inl (cI, 31, .inl (Rw 1)))] := hD
              refine lv_aload_n hx hb dX6_chooseGroup_71 rfl (lv_at hl 0 rfl) ?_
              refine lv_iconst (v := nI 5) hx hb dX6_chooseGroup_72 rfl ?_
              refine va_put (D := D) (ci := 6) (v := .int (nI 5)) (ty := .int) (C := RX6) (T := TX6) (N := 10) hx hb hts inX6_chooseGroup_X6 tyX6 tyX6_ok nmX6 hown hK hP hD hS 5 rfl rfl 8 (by decide) (hts (.fieldLink RX6 32 "ScrambledLine$Sender" "bitsLeft" "I") (by decide +kernel)) (fun _ h9 => h9) rfl (by decide +kernel) rfl rfl (Nat.le_of_ble_eq_true rfl) dX6_chooseGroup_73 (fun H locs hP hD hS => ?_)
              have hP : va_P D vwCl [(r0, .inl (cI, 31, .inl (Rw 0))), (r2, .inl (cI, 31, .inl (Rw 2))), (r3, .inl (cI, 31, .inl (Rw 3))), (ob, .inr (3, [.int (nI src), .ref ga, .int (nI gl), .ref fa, .int (nI ((ff + 1) % 4)), .int (nI (fc - 1))])), (fa, .inl (cG, 4, .inr (.inr (.inr (.inr (gq4 r0 r1 r2 r3)))))), (h0, .inr (6, [.ref ob, .ref sc, .ref gr, .int (nI (2 * (fsz (q 1) + 4) + 8)), .int (nI 0), .int (nI 1), .int (nI idl), .int (nI 24), .int (nI 5), .int la])), (gr, .inl (cI, 70, .inl gf2_34)), (r1, .inl (cI, 31, .inl (Rw 1)))] H := hP
              have hD : va_D A [(r0, .inl (cI, 31, .inl (Rw 0))), (r2, .inl (cI, 31, .inl (Rw 2))), (r3, .inl (cI, 31, .inl (Rw 3))), (ob, .inr (3, [.int (nI src), .ref ga, .int (nI gl), .ref fa, .int (nI ((ff + 1) % 4)), .int (nI (fc - 1))])), (fa, .inl (cG, 4, .inr (.inr (.inr (.inr (gq4 r0 r1 r2 r3)))))), (h0, .inr (6, [.ref ob, .ref sc, .ref gr, .int (nI (2 * (fsz (q 1) + 4) + 8)), .int (nI 0), .int (nI 1), .int (nI idl), .int (nI 24), .int (nI 5), .int la])), (gr, .inl (cI, 70, .inl gf2_34)), (r1, .inl (cI, 31, .inl (Rw 1)))] := hD
              refine W_q hQ ?_
              exact rt_v gf2_34 hx hb hr hlocks dX6_chooseGroup_76 hS (hP.sub [5, 3, 4, 0, 7, 1, 2, 6] rfl) (hD.sub [5, 3, 4, 0, 7, 1, 2, 6] (by decide) rfl) hgr_34
        · skip
          refine lv_tov (y := .ref r2) (by rw [hk]; rfl) ?_
          refine ca_v (wr := [(r0, .inl (cI, 31, .inl (Rw 0))), (r1, .inl (cI, 31, .inl (Rw 1))), (r3, .inl (cI, 31, .inl (Rw 3))), (ob, .inr (3, [.int (nI src), .ref ga, .int (nI gl), .ref fa, .int (nI ((ff + 1) % 4)), .int (nI (fc - 1))])), (fa, .inl (cG, 4, .inr (.inr (.inr (.inr (gq4 r0 r1 r2 r3))))))]) (ru_V (As := [.ref r2]) (rest := []) ⟨hx, hb, hml, hown, hts⟩ (c_X6_beginFrame l D cI cG tt H.size h0 ob sc gr gc gn (nI 0) (nI idl) g bl la gf r2 (Rw 2) (q 1) (qB src q 0) hq1 (Qrow hQ0 hW hf0 hs hk) (qB_2 (by omega))) (cwV 1 hts gX6_chooseGroup_X6_beginFrame rfl rfl rfl (by decide +kernel) ⟨by rw [hR]; exact Nat.le_of_ble_eq_true rfl, by rw [hR]; exact Nat.le_of_ble_eq_true rfl⟩) hP hD hE hT hS hA [0, 5, 3] rfl (by decide) (va_recv hK hP (ci := 6) (q0 := 0) rfl rfl) rfl hl.1 rfl (Nat.le_of_ble_eq_true rfl) dX6_chooseGroup_34 ⟨by rw [hR]; exact Nat.le_of_ble_eq_true rfl, by rw [hR]; exact Nat.le_of_ble_eq_true rfl⟩) hP hD hS hA [0, 5, 3] [1, 2, 4, 6, 7] rfl rfl (by decide) (by decide) (fun u H locs hw hP hD hS => ?_)
          obtain ⟨gf2_34, rfl⟩ : ∃ z, z = u := ⟨_, rfl⟩
          have hgr_34 := hw
          have hP : va_P D vwCl [(r0, .inl (cI, 31, .inl (Rw 0))), (r1, .inl (cI, 31, .inl (Rw 1))), (r3, .inl (cI, 31, .inl (Rw 3))), (ob, .inr (3, [.int (nI src), .ref ga, .int (nI gl), .ref fa, .int (nI ((ff + 1) % 4)), .int (nI (fc - 1))])), (fa, .inl (cG, 4, .inr (.inr (.inr (.inr (gq4 r0 r1 r2 r3)))))), (h0, .inr (6, [.ref ob, .ref sc, .ref gr, .int (nI (2 * (fsz (q 1) + 4) + 8)), .int (nI 0), .int (nI 1), .int (nI idl), .int g, .int bl, .int la])), (gr, .inl (cI, 70, .inl gf2_34)), (r2, .inl (cI, 31, .inl (Rw 2)))] H := hP
          have hD : va_D A [(r0, .inl (cI, 31, .inl (Rw 0))), (r1, .inl (cI, 31, .inl (Rw 1))), (r3, .inl (cI, 31, .inl (Rw 3))), (ob, .inr (3, [.int (nI src), .ref ga, .int (nI gl), .ref fa, .int (nI ((ff + 1) % 4)), .int (nI (fc - 1))])), (fa, .inl (cG, 4, .inr (.inr (.inr (.inr (gq4 r0 r1 r2 r3)))))), (h0, .inr (6, [.ref ob, .ref sc, .ref gr, .int (nI (2 * (fsz (q 1) + 4) + 8)), .int (nI 0), .int (nI 1), .int (nI idl), .int g, .int bl, .int la])), (gr, .inl (cI, 70, .inl gf2_34)), (r2, .inl (cI, 31, .inl (Rw 2)))] := hD
          refine lv_aload_n hx hb dX6_chooseGroup_37 rfl (lv_at hl 0 rfl) ?_
          refine lv_aload_n hx hb dX6_chooseGroup_38 rfl (lv_at hl 0 rfl) ?_
          refine va_get (D := D) (ci := 6) (v := .int (nI 1)) (C := RX6) (T := TX6) (N := 10) hx hb hts inX6_chooseGroup_X6 hown hK hP 5 rfl rfl 5 (by decide) (hts (.fieldLink RX6 22 "ScrambledLine$Sender" "inFrame" "Z") (by decide +kernel)) (fun _ h9 => h9) rfl dX6_chooseGroup_39 ?_
          refine lv_if_eq (tgt := 66) hx hb dX6_chooseGroup_42 (by decide) (fun c42 => ?_) (fun c42 => ?_)
          · skip
            have k42 : 1 = 0 := (nI_eq (a := 1) (b := 0) (by omega) (by omega)).mp c42
            exact False.elim (by omega)
          · skip
            have k42 : ¬ 1 = 0 := fun zq => c42 ((nI_eq (a := 1) (b := 0) (by omega) (by omega)).mpr zq)
            refine lv_aload_n hx hb dX6_chooseGroup_45 rfl (lv_at hl 0 rfl) ?_
            refine va_get (D := D) (ci := 6) (v := .int (nI 0)) (C := RX6) (T := TX6) (N := 10) hx hb hts inX6_chooseGroup_X6 hown hK hP 5 rfl rfl 4 (by decide) (hts (.fieldLink RX6 19 "ScrambledLine$Sender" "groupsSent" "I") (by decide +kernel)) (fun _ h9 => h9) rfl dX6_chooseGroup_46 ?_
            refine lv_bipush (v := nI 70) hx hb dX6_chooseGroup_49 rfl ?_
            refine lv_icmp_ge (tgt := 66) hx hb dX6_chooseGroup_51 (by decide) (fun c51 => ?_) (fun c51 => ?_)
            · skip
              have k51 : 70 ≤ 0 := (nI_leI (a := 70) (b := 0) (by omega) (by omega)).mp c51
              exact False.elim (by omega)
            · skip
              have k51 : ¬ 70 ≤ 0 := fun zq => c51 ((nI_leI (a := 70) (b := 0) (by omega) (by omega)).mpr zq)
              refine lv_aload_n hx hb dX6_chooseGroup_54 rfl (lv_at hl 0 rfl) ?_
              refine va_get (D := D) (ci := 6) (v := .ref gr) (C := RX6) (T := TX6) (N := 10) hx hb hts inX6_chooseGroup_X6 hown hK hP 5 rfl rfl 2 (by decide) (hts (.fieldLink RX6 11 "ScrambledLine$Sender" "groups" "[I") (by decide +kernel)) (fun _ h9 => h9) rfl dX6_chooseGroup_55 ?_
              refine lv_aload_n hx hb dX6_chooseGroup_58 rfl (lv_at hl 0 rfl) ?_
              refine va_get (D := D) (ci := 6) (v := .int (nI 0)) (C := RX6) (T := TX6) (N := 10) hx hb hts inX6_chooseGroup_X6 hown hK hP 5 rfl rfl 4 (by decide) (hts (.fieldLink RX6 19 "ScrambledLine$Sender" "groupsSent" "I") (by decide +kernel)) (fun _ h9 => h9) rfl dX6_chooseGroup_59 ?_
              refine gl_i hx hb hK hP 6 rfl (i := 0) (by omega) (by first | decide | omega) dX6_chooseGroup_62 ?_
              refine lv_to (y := nI 24) (hgr_34 0 (by omega)) ?_
              refine lv_goto (tgt := 68) hx hb dX6_chooseGroup_63 (by decide) ?_
              refine va_put (D := D) (ci := 6) (v := .int (nI 24)) (ty := .int) (C := RX6) (T := TX6) (N := 10) hx hb hts inX6_chooseGroup_X6 tyX6 tyX6_ok nmX6 hown hK hP hD hS 5 rfl rfl 7 (by decide) (hts (.fieldLink RX6 29 "ScrambledLine$Sender" "group" "I") (by decide +kernel)) (fun _ h9 => h9) rfl (by decide +kernel) rfl rfl (Nat.le_of_ble_eq_true rfl) dX6_chooseGroup_68 (fun H locs hP hD hS => ?_)
              have hP : va_P D vwCl [(r0, .inl (cI, 31, .inl (Rw 0))), (r1, .inl (cI, 31, .inl (Rw 1))), (r3, .inl (cI, 31, .inl (Rw 3))), (ob, .inr (3, [.int (nI src), .ref ga, .int (nI gl), .ref fa, .int (nI ((ff + 1) % 4)), .int (nI (fc - 1))])), (fa, .inl (cG, 4, .inr (.inr (.inr (.inr (gq4 r0 r1 r2 r3)))))), (h0, .inr (6, [.ref ob, .ref sc, .ref gr, .int (nI (2 * (fsz (q 1) + 4) + 8)), .int (nI 0), .int (nI 1), .int (nI idl), .int (nI 24), .int bl, .int la])), (gr, .inl (cI, 70, .inl gf2_34)), (r2, .inl (cI, 31, .inl (Rw 2)))] H := hP
              have hD : va_D A [(r0, .inl (cI, 31, .inl (Rw 0))), (r1, .inl (cI, 31, .inl (Rw 1))), (r3, .inl (cI, 31, .inl (Rw 3))), (ob, .inr (3, [.int (nI src), .ref ga, .int (nI gl), .ref fa, .int (nI ((ff + 1) % 4)), .int (nI (fc - 1))])), (fa, .inl (cG, 4, .inr (.inr (.inr (.inr (gq4 r0 r1 r2 r3)))))), (h0, .inr (6, [.ref ob, .ref sc, .ref gr, .int (nI (2 * (fsz (q 1) + 4) + 8)), .int (nI 0), .int (nI 1), .int (nI idl), .int (nI 24), .int bl, .int la])), (gr, .inl (cI, 70, .inl gf2_34)), (r2, .inl (cI, 31, .inl (Rw 2)))] := hD
              refine lv_aload_n hx hb dX6_chooseGroup_71 rfl (lv_at hl 0 rfl) ?_
              refine lv_iconst (v := nI 5) hx hb dX6_chooseGroup_72 rfl ?_
              refine va_put (D := D) (ci := 6) (v := .int (nI 5)) (ty := .int) (C := RX6) (T := TX6) (N := 10) hx hb hts inX6_chooseGroup_X6 tyX6 tyX6_ok nmX6 hown hK hP hD hS 5 rfl rfl 8 (by decide) (hts (.fieldLink RX6 32 "ScrambledLine$Sender" "bitsLeft" "I") (by decide +kernel)) (fun _ h9 => h9) rfl (by decide +kernel) rfl rfl (Nat.le_of_ble_eq_true rfl) dX6_chooseGroup_73 (fun H locs hP hD hS => ?_)
              have hP : va_P D vwCl [(r0, .inl (cI, 31, .inl (Rw 0))), (r1, .inl (cI, 31, .inl (Rw 1))), (r3, .inl (cI, 31, .inl (Rw 3))), (ob, .inr (3, [.int (nI src), .ref ga, .int (nI gl), .ref fa, .int (nI ((ff + 1) % 4)), .int (nI (fc - 1))])), (fa, .inl (cG, 4, .inr (.inr (.inr (.inr (gq4 r0 r1 r2 r3)))))), (h0, .inr (6, [.ref ob, .ref sc, .ref gr, .int (nI (2 * (fsz (q 1) + 4) + 8)), .int (nI 0), .int (nI 1), .int (nI idl), .int (nI 24), .int (nI 5), .int la])), (gr, .inl (cI, 70, .inl gf2_34)), (r2, .inl (cI, 31, .inl (Rw 2)))] H := hP
              have hD : va_D A [(r0, .inl (cI, 31, .inl (Rw 0))), (r1, .inl (cI, 31, .inl (Rw 1))), (r3, .inl (cI, 31, .inl (Rw 3))), (ob, .inr (3, [.int (nI src), .ref ga, .int (nI gl), .ref fa, .int (nI ((ff + 1) % 4)), .int (nI (fc - 1))])), (fa, .inl (cG, 4, .inr (.inr (.inr (.inr (gq4 r0 r1 r2 r3)))))), (h0, .inr (6, [.ref ob, .ref sc, .ref gr, .int (nI (2 * (fsz (q 1) + 4) + 8)), .int (nI 0), .int (nI 1), .int (nI idl), .int (nI 24), .int (nI 5), .int la])), (gr, .inl (cI, 70, .inl gf2_34)), (r2, .inl (cI, 31, .inl (Rw 2)))] := hD
              refine W_q hQ ?_
              exact rt_v gf2_34 hx hb hr hlocks dX6_chooseGroup_76 hS (hP.sub [5, 3, 4, 0, 1, 7, 2, 6] rfl) (hD.sub [5, 3, 4, 0, 1, 7, 2, 6] (by decide) rfl) hgr_34
        · skip
          refine lv_tov (y := .ref r3) (by rw [hk]; rfl) ?_
          refine ca_v (wr := [(r0, .inl (cI, 31, .inl (Rw 0))), (r1, .inl (cI, 31, .inl (Rw 1))), (r2, .inl (cI, 31, .inl (Rw 2))), (ob, .inr (3, [.int (nI src), .ref ga, .int (nI gl), .ref fa, .int (nI ((ff + 1) % 4)), .int (nI (fc - 1))])), (fa, .inl (cG, 4, .inr (.inr (.inr (.inr (gq4 r0 r1 r2 r3))))))]) (ru_V (As := [.ref r3]) (rest := []) ⟨hx, hb, hml, hown, hts⟩ (c_X6_beginFrame l D cI cG tt H.size h0 ob sc gr gc gn (nI 0) (nI idl) g bl la gf r3 (Rw 3) (q 1) (qB src q 0) hq1 (Qrow hQ0 hW hf0 hs hk) (qB_2 (by omega))) (cwV 1 hts gX6_chooseGroup_X6_beginFrame rfl rfl rfl (by decide +kernel) ⟨by rw [hR]; exact Nat.le_of_ble_eq_true rfl, by rw [hR]; exact Nat.le_of_ble_eq_true rfl⟩) hP hD hE hT hS hA [0, 5, 4] rfl (by decide) (va_recv hK hP (ci := 6) (q0 := 0) rfl rfl) rfl hl.1 rfl (Nat.le_of_ble_eq_true rfl) dX6_chooseGroup_34 ⟨by rw [hR]; exact Nat.le_of_ble_eq_true rfl, by rw [hR]; exact Nat.le_of_ble_eq_true rfl⟩) hP hD hS hA [0, 5, 4] [1, 2, 3, 6, 7] rfl rfl (by decide) (by decide) (fun u H locs hw hP hD hS => ?_)
          obtain ⟨gf2_34, rfl⟩ : ∃ z, z = u := ⟨_, rfl⟩
          have hgr_34 := hw
          have hP : va_P D vwCl [(r0, .inl (cI, 31, .inl (Rw 0))), (r1, .inl (cI, 31, .inl (Rw 1))), (r2, .inl (cI, 31, .inl (Rw 2))), (ob, .inr (3, [.int (nI src), .ref ga, .int (nI gl), .ref fa, .int (nI ((ff + 1) % 4)), .int (nI (fc - 1))])), (fa, .inl (cG, 4, .inr (.inr (.inr (.inr (gq4 r0 r1 r2 r3)))))), (h0, .inr (6, [.ref ob, .ref sc, .ref gr, .int (nI (2 * (fsz (q 1) + 4) + 8)), .int (nI 0), .int (nI 1), .int (nI idl), .int g, .int bl, .int la])), (gr, .inl (cI, 70, .inl gf2_34)), (r3, .inl (cI, 31, .inl (Rw 3)))] H := hP
          have hD : va_D A [(r0, .inl (cI, 31, .inl (Rw 0))), (r1, .inl (cI, 31, .inl (Rw 1))), (r2, .inl (cI, 31, .inl (Rw 2))), (ob, .inr (3, [.int (nI src), .ref ga, .int (nI gl), .ref fa, .int (nI ((ff + 1) % 4)), .int (nI (fc - 1))])), (fa, .inl (cG, 4, .inr (.inr (.inr (.inr (gq4 r0 r1 r2 r3)))))), (h0, .inr (6, [.ref ob, .ref sc, .ref gr, .int (nI (2 * (fsz (q 1) + 4) + 8)), .int (nI 0), .int (nI 1), .int (nI idl), .int g, .int bl, .int la])), (gr, .inl (cI, 70, .inl gf2_34)), (r3, .inl (cI, 31, .inl (Rw 3)))] := hD
          refine lv_aload_n hx hb dX6_chooseGroup_37 rfl (lv_at hl 0 rfl) ?_
          refine lv_aload_n hx hb dX6_chooseGroup_38 rfl (lv_at hl 0 rfl) ?_
          refine va_get (D := D) (ci := 6) (v := .int (nI 1)) (C := RX6) (T := TX6) (N := 10) hx hb hts inX6_chooseGroup_X6 hown hK hP 5 rfl rfl 5 (by decide) (hts (.fieldLink RX6 22 "ScrambledLine$Sender" "inFrame" "Z") (by decide +kernel)) (fun _ h9 => h9) rfl dX6_chooseGroup_39 ?_
          refine lv_if_eq (tgt := 66) hx hb dX6_chooseGroup_42 (by decide) (fun c42 => ?_) (fun c42 => ?_)
          · skip
            have k42 : 1 = 0 := (nI_eq (a := 1) (b := 0) (by omega) (by omega)).mp c42
            exact False.elim (by omega)
          · skip
            have k42 : ¬ 1 = 0 := fun zq => c42 ((nI_eq (a := 1) (b := 0) (by omega) (by omega)).mpr zq)
            refine lv_aload_n hx hb dX6_chooseGroup_45 rfl (lv_at hl 0 rfl) ?_
            refine va_get (D := D) (ci := 6) (v := .int (nI 0)) (C := RX6) (T := TX6) (N := 10) hx hb hts inX6_chooseGroup_X6 hown hK hP 5 rfl rfl 4 (by decide) (hts (.fieldLink RX6 19 "ScrambledLine$Sender" "groupsSent" "I") (by decide +kernel)) (fun _ h9 => h9) rfl dX6_chooseGroup_46 ?_
            refine lv_bipush (v := nI 70) hx hb dX6_chooseGroup_49 rfl ?_
            refine lv_icmp_ge (tgt := 66) hx hb dX6_chooseGroup_51 (by decide) (fun c51 => ?_) (fun c51 => ?_)
            · skip
              have k51 : 70 ≤ 0 := (nI_leI (a := 70) (b := 0) (by omega) (by omega)).mp c51
              exact False.elim (by omega)
            · skip
              have k51 : ¬ 70 ≤ 0 := fun zq => c51 ((nI_leI (a := 70) (b := 0) (by omega) (by omega)).mpr zq)
              refine lv_aload_n hx hb dX6_chooseGroup_54 rfl (lv_at hl 0 rfl) ?_
              refine va_get (D := D) (ci := 6) (v := .ref gr) (C := RX6) (T := TX6) (N := 10) hx hb hts inX6_chooseGroup_X6 hown hK hP 5 rfl rfl 2 (by decide) (hts (.fieldLink RX6 11 "ScrambledLine$Sender" "groups" "[I") (by decide +kernel)) (fun _ h9 => h9) rfl dX6_chooseGroup_55 ?_
              refine lv_aload_n hx hb dX6_chooseGroup_58 rfl (lv_at hl 0 rfl) ?_
              refine va_get (D := D) (ci := 6) (v := .int (nI 0)) (C := RX6) (T := TX6) (N := 10) hx hb hts inX6_chooseGroup_X6 hown hK hP 5 rfl rfl 4 (by decide) (hts (.fieldLink RX6 19 "ScrambledLine$Sender" "groupsSent" "I") (by decide +kernel)) (fun _ h9 => h9) rfl dX6_chooseGroup_59 ?_
              refine gl_i hx hb hK hP 6 rfl (i := 0) (by omega) (by first | decide | omega) dX6_chooseGroup_62 ?_
              refine lv_to (y := nI 24) (hgr_34 0 (by omega)) ?_
              refine lv_goto (tgt := 68) hx hb dX6_chooseGroup_63 (by decide) ?_
              refine va_put (D := D) (ci := 6) (v := .int (nI 24)) (ty := .int) (C := RX6) (T := TX6) (N := 10) hx hb hts inX6_chooseGroup_X6 tyX6 tyX6_ok nmX6 hown hK hP hD hS 5 rfl rfl 7 (by decide) (hts (.fieldLink RX6 29 "ScrambledLine$Sender" "group" "I") (by decide +kernel)) (fun _ h9 => h9) rfl (by decide +kernel) rfl rfl (Nat.le_of_ble_eq_true rfl) dX6_chooseGroup_68 (fun H locs hP hD hS => ?_)
              have hP : va_P D vwCl [(r0, .inl (cI, 31, .inl (Rw 0))), (r1, .inl (cI, 31, .inl (Rw 1))), (r2, .inl (cI, 31, .inl (Rw 2))), (ob, .inr (3, [.int (nI src), .ref ga, .int (nI gl), .ref fa, .int (nI ((ff + 1) % 4)), .int (nI (fc - 1))])), (fa, .inl (cG, 4, .inr (.inr (.inr (.inr (gq4 r0 r1 r2 r3)))))), (h0, .inr (6, [.ref ob, .ref sc, .ref gr, .int (nI (2 * (fsz (q 1) + 4) + 8)), .int (nI 0), .int (nI 1), .int (nI idl), .int (nI 24), .int bl, .int la])), (gr, .inl (cI, 70, .inl gf2_34)), (r3, .inl (cI, 31, .inl (Rw 3)))] H := hP
              have hD : va_D A [(r0, .inl (cI, 31, .inl (Rw 0))), (r1, .inl (cI, 31, .inl (Rw 1))), (r2, .inl (cI, 31, .inl (Rw 2))), (ob, .inr (3, [.int (nI src), .ref ga, .int (nI gl), .ref fa, .int (nI ((ff + 1) % 4)), .int (nI (fc - 1))])), (fa, .inl (cG, 4, .inr (.inr (.inr (.inr (gq4 r0 r1 r2 r3)))))), (h0, .inr (6, [.ref ob, .ref sc, .ref gr, .int (nI (2 * (fsz (q 1) + 4) + 8)), .int (nI 0), .int (nI 1), .int (nI idl), .int (nI 24), .int bl, .int la])), (gr, .inl (cI, 70, .inl gf2_34)), (r3, .inl (cI, 31, .inl (Rw 3)))] := hD
              refine lv_aload_n hx hb dX6_chooseGroup_71 rfl (lv_at hl 0 rfl) ?_
              refine lv_iconst (v := nI 5) hx hb dX6_chooseGroup_72 rfl ?_
              refine va_put (D := D) (ci := 6) (v := .int (nI 5)) (ty := .int) (C := RX6) (T := TX6) (N := 10) hx hb hts inX6_chooseGroup_X6 tyX6 tyX6_ok nmX6 hown hK hP hD hS 5 rfl rfl 8 (by decide) (hts (.fieldLink RX6 32 "ScrambledLine$Sender" "bitsLeft" "I") (by decide +kernel)) (fun _ h9 => h9) rfl (by decide +kernel) rfl rfl (Nat.le_of_ble_eq_true rfl) dX6_chooseGroup_73 (fun H locs hP hD hS => ?_)
              have hP : va_P D vwCl [(r0, .inl (cI, 31, .inl (Rw 0))), (r1, .inl (cI, 31, .inl (Rw 1))), (r2, .inl (cI, 31, .inl (Rw 2))), (ob, .inr (3, [.int (nI src), .ref ga, .int (nI gl), .ref fa, .int (nI ((ff + 1) % 4)), .int (nI (fc - 1))])), (fa, .inl (cG, 4, .inr (.inr (.inr (.inr (gq4 r0 r1 r2 r3)))))), (h0, .inr (6, [.ref ob, .ref sc, .ref gr, .int (nI (2 * (fsz (q 1) + 4) + 8)), .int (nI 0), .int (nI 1), .int (nI idl), .int (nI 24), .int (nI 5), .int la])), (gr, .inl (cI, 70, .inl gf2_34)), (r3, .inl (cI, 31, .inl (Rw 3)))] H := hP
              have hD : va_D A [(r0, .inl (cI, 31, .inl (Rw 0))), (r1, .inl (cI, 31, .inl (Rw 1))), (r2, .inl (cI, 31, .inl (Rw 2))), (ob, .inr (3, [.int (nI src), .ref ga, .int (nI gl), .ref fa, .int (nI ((ff + 1) % 4)), .int (nI (fc - 1))])), (fa, .inl (cG, 4, .inr (.inr (.inr (.inr (gq4 r0 r1 r2 r3)))))), (h0, .inr (6, [.ref ob, .ref sc, .ref gr, .int (nI (2 * (fsz (q 1) + 4) + 8)), .int (nI 0), .int (nI 1), .int (nI idl), .int (nI 24), .int (nI 5), .int la])), (gr, .inl (cI, 70, .inl gf2_34)), (r3, .inl (cI, 31, .inl (Rw 3)))] := hD
              refine W_q hQ ?_
              exact rt_v gf2_34 hx hb hr hlocks dX6_chooseGroup_76 hS (hP.sub [5, 3, 4, 0, 1, 2, 7, 6] rfl) (hD.sub [5, 3, 4, 0, 1, 2, 7, 6] (by decide) rfl) hgr_34

theorem inX6_noteGroupSent_X6 : ∀ w ∈ u_ws RX6 TX6 10, w ∈ wsX6_noteGroupSent := by decide +kernel
set_option maxHeartbeats 4000000 in
set_option maxRecDepth 100000 in
theorem c_X6_noteGroupSent_idle (l : Launch) (D : va_G) (cI cG : ClassId) (tt : Nat × Nat × Nat) (sz : Nat) (h0 : Nat) (ob : Nat) (sc : Nat) (gr : Nat) (gc : Int32) (gn : Int32) (idl : Nat) (g : Int32) (bl : Int32) (la : Int32) (hid : idl ≤ 6) : Met l yX6_noteGroupSent wsX6_noteGroupSent ({ frames := 1, cells := 0, slots := 0, locals := 20 }) (PC D cI cG tt [.ref h0] [(h0, .inr (6, [.ref ob, .ref sc, .ref gr, .int gc, .int gn, .int (nI 0), .int (nI idl), .int g, .int bl, .int la]))] sz) (QV (fun (u : Unit) => True) (fun (u : Unit) => [(h0, .inr (6, [.ref ob, .ref sc, .ref gr, .int gc, .int gn, .int (nI 0), .int (nI (min (idl + 1) 6)), .int g, .int bl, .int la]))]) D (va_A [(h0, .inr (6, [.ref ob, .ref sc, .ref gr, .int gc, .int gn, .int (nI 0), .int (nI idl), .int g, .int bl, .int la]))] sz)) 0 0 (va_A [(h0, .inr (6, [.ref ob, .ref sc, .ref gr, .int gc, .int gn, .int (nI 0), .int (nI idl), .int g, .int bl, .int la]))] sz) := by
  refine ct_of (y := yX6_noteGroupSent) (cc := cX6_noteGroupSent) (maxL := 1) (ret := none) (Qf := QV (fun (u : Unit) => True) (fun (u : Unit) => [(h0, .inr (6, [.ref ob, .ref sc, .ref gr, .int gc, .int gn, .int (nI 0), .int (nI (min (idl + 1) 6)), .int g, .int bl, .int la]))]) D) (by decide) rfl ?_
  intro p e s m args below meth c A Q R H locs hR hQ hx hb hml hr hts hown hlocks hin hP hD hE hT hA hS
  have hK := hE.1
  have hl := lv_entry ([.ref h0]) (n := 1) (Nat.le_of_ble_eq_true rfl)
  rw [lg_entry_eq]
  generalize (lg_sl ([.ref h0]) ++ List.replicate (1 - (lg_sl ([.ref h0])).length) Slot.unset).toArray = ls at hl ⊢
  have hl : lv_has ls 1 [(0, .ref h0)] := hl
  refine lv_aload_n hx hb dX6_noteGroupSent_0 rfl (lv_at hl 0 rfl) ?_
  refine va_get (D := D) (ci := 6) (v := .int (nI 0)) (C := RX6) (T := TX6) (N := 10) hx hb hts inX6_noteGroupSent_X6 hown hK hP 0 rfl rfl 5 (by decide) (hts (.fieldLink RX6 22 "ScrambledLine$Sender" "inFrame" "Z") (by decide +kernel)) (fun _ h9 => h9) rfl dX6_noteGroupSent_1 ?_
  refine lv_if_ne (tgt := 23) hx hb dX6_noteGroupSent_4 (by decide) (fun c4 => ?_) (fun c4 => ?_)
  · skip
    have k4 : ¬ 0 = 0 := fun zq => c4 ((nI_eq (a := 0) (b := 0) (by omega) (by omega)).mpr zq)
    exact False.elim (by omega)
  · skip
    have k4 : 0 = 0 := (nI_eq (a := 0) (b := 0) (by omega) (by omega)).mp c4
    refine lv_aload_n hx hb dX6_noteGroupSent_7 rfl (lv_at hl 0 rfl) ?_
    refine lv_aload_n hx hb dX6_noteGroupSent_8 rfl (lv_at hl 0 rfl) ?_
    refine va_get (D := D) (ci := 6) (v := .int (nI idl)) (C := RX6) (T := TX6) (N := 10) hx hb hts inX6_noteGroupSent_X6 hown hK hP 0 rfl rfl 6 (by decide) (hts (.fieldLink RX6 26 "ScrambledLine$Sender" "idles" "I") (by decide +kernel)) (fun _ h9 => h9) rfl dX6_noteGroupSent_9 ?_
    refine lv_iconst (v := nI 1) hx hb dX6_noteGroupSent_12 rfl ?_
    refine lv_iadd hx hb dX6_noteGroupSent_13 ?_
    refine lv_to (y := nI (idl + 1)) (nI_add idl 1) ?_
    refine lv_bipush (v := nI 6) hx hb dX6_noteGroupSent_14 rfl ?_
    refine va_mmin hx hb (by rw [hml]; exact hl.1.symm) hown (hts (.methodLink RX6 87 Lib.Math.min.name) (by decide +kernel)) (hts (.static Lib.Math.min.name) (by decide +kernel)) (hts (.initialized "java/lang/Math") (by decide +kernel)) (hts (.code Lib.Math.min.name Lib.Math.min.code 2 (some .int)) (by decide +kernel)) (by rw [hR]; exact Nat.le_of_ble_eq_true rfl) (by rw [hR]; exact Nat.le_of_ble_eq_true rfl) (by rw [hR]; exact Nat.le_of_ble_eq_true rfl) (by rw [hR]; exact Nat.le_of_ble_eq_true rfl) dX6_noteGroupSent_16 ?_
    refine lv_to (y := nI (min (idl + 1) 6)) (mn_n (by omega) (by omega)) ?_
    refine va_put (D := D) (ci := 6) (v := .int (nI (min (idl + 1) 6))) (ty := .int) (C := RX6) (T := TX6) (N := 10) hx hb hts inX6_noteGroupSent_X6 tyX6 tyX6_ok nmX6 hown hK hP hD hS 0 rfl rfl 6 (by decide) (hts (.fieldLink RX6 26 "ScrambledLine$Sender" "idles" "I") (by decide +kernel)) (fun _ h9 => h9) rfl (by decide +kernel) rfl rfl (Nat.le_of_ble_eq_true rfl) dX6_noteGroupSent_19 (fun H locs hP hD hS => ?_)
    have hP : va_P D vwCl [(h0, .inr (6, [.ref ob, .ref sc, .ref gr, .int gc, .int gn, .int (nI 0), .int (nI (min (idl + 1) 6)), .int g, .int bl, .int la]))] H := hP
    have hD : va_D A [(h0, .inr (6, [.ref ob, .ref sc, .ref gr, .int gc, .int gn, .int (nI 0), .int (nI (min (idl + 1) 6)), .int g, .int bl, .int la]))] := hD
    refine W_q hQ ?_
    exact rt_v () hx hb hr hlocks dX6_noteGroupSent_22 hS hP hD trivial

set_option maxHeartbeats 4000000 in
set_option maxRecDepth 100000 in
theorem c_X6_noteGroupSent_in (l : Launch) (D : va_G) (cI cG : ClassId) (tt : Nat × Nat × Nat) (sz : Nat) (h0 : Nat) (ob : Nat) (sc : Nat) (gr : Nat) (gc : Nat) (gn : Nat) (idl : Int32) (g : Int32) (bl : Int32) (la : Int32) (hc : gc ≤ 70) (hn : gn < 70) (hh : gn + 1 < gc) : Met l yX6_noteGroupSent wsX6_noteGroupSent ({ frames := 1, cells := 0, slots := 0, locals := 20 }) (PC D cI cG tt [.ref h0] [(h0, .inr (6, [.ref ob, .ref sc, .ref gr, .int (nI gc), .int (nI gn), .int (nI 1), .int idl, .int g, .int bl, .int la]))] sz) (QV (fun (u : Unit) => True) (fun (u : Unit) => [(h0, .inr (6, [.ref ob, .ref sc, .ref gr, .int (nI gc), .int (nI (gn + 1)), .int (nI 1), .int idl, .int g, .int bl, .int la]))]) D (va_A [(h0, .inr (6, [.ref ob, .ref sc, .ref gr, .int (nI gc), .int (nI gn), .int (nI 1), .int idl, .int g, .int bl, .int la]))] sz)) 0 0 (va_A [(h0, .inr (6, [.ref ob, .ref sc, .ref gr, .int (nI gc), .int (nI gn), .int (nI 1), .int idl, .int g, .int bl, .int la]))] sz) := by
  refine ct_of (y := yX6_noteGroupSent) (cc := cX6_noteGroupSent) (maxL := 1) (ret := none) (Qf := QV (fun (u : Unit) => True) (fun (u : Unit) => [(h0, .inr (6, [.ref ob, .ref sc, .ref gr, .int (nI gc), .int (nI (gn + 1)), .int (nI 1), .int idl, .int g, .int bl, .int la]))]) D) (by decide) rfl ?_
  intro p e s m args below meth c A Q R H locs hR hQ hx hb hml hr hts hown hlocks hin hP hD hE hT hA hS
  have hK := hE.1
  have hl := lv_entry ([.ref h0]) (n := 1) (Nat.le_of_ble_eq_true rfl)
  rw [lg_entry_eq]
  generalize (lg_sl ([.ref h0]) ++ List.replicate (1 - (lg_sl ([.ref h0])).length) Slot.unset).toArray = ls at hl ⊢
  have hl : lv_has ls 1 [(0, .ref h0)] := hl
  refine lv_aload_n hx hb dX6_noteGroupSent_0 rfl (lv_at hl 0 rfl) ?_
  refine va_get (D := D) (ci := 6) (v := .int (nI 1)) (C := RX6) (T := TX6) (N := 10) hx hb hts inX6_noteGroupSent_X6 hown hK hP 0 rfl rfl 5 (by decide) (hts (.fieldLink RX6 22 "ScrambledLine$Sender" "inFrame" "Z") (by decide +kernel)) (fun _ h9 => h9) rfl dX6_noteGroupSent_1 ?_
  refine lv_if_ne (tgt := 23) hx hb dX6_noteGroupSent_4 (by decide) (fun c4 => ?_) (fun c4 => ?_)
  · skip
    have k4 : ¬ 1 = 0 := fun zq => c4 ((nI_eq (a := 1) (b := 0) (by omega) (by omega)).mpr zq)
    refine lv_aload_n hx hb dX6_noteGroupSent_23 rfl (lv_at hl 0 rfl) ?_
    refine lv_dup hx hb dX6_noteGroupSent_24 rfl ?_
    refine va_get (D := D) (ci := 6) (v := .int (nI gn)) (C := RX6) (T := TX6) (N := 10) hx hb hts inX6_noteGroupSent_X6 hown hK hP 0 rfl rfl 4 (by decide) (hts (.fieldLink RX6 19 "ScrambledLine$Sender" "groupsSent" "I") (by decide +kernel)) (fun _ h9 => h9) rfl dX6_noteGroupSent_25 ?_
    refine lv_iconst (v := nI 1) hx hb dX6_noteGroupSent_28 rfl ?_
    refine lv_iadd hx hb dX6_noteGroupSent_29 ?_
    refine lv_to (y := nI (gn + 1)) (nI_add gn 1) ?_
    refine va_put (D := D) (ci := 6) (v := .int (nI (gn + 1))) (ty := .int) (C := RX6) (T := TX6) (N := 10) hx hb hts inX6_noteGroupSent_X6 tyX6 tyX6_ok nmX6 hown hK hP hD hS 0 rfl rfl 4 (by decide) (hts (.fieldLink RX6 19 "ScrambledLine$Sender" "groupsSent" "I") (by decide +kernel)) (fun _ h9 => h9) rfl (by decide +kernel) rfl rfl (Nat.le_of_ble_eq_true rfl) dX6_noteGroupSent_30 (fun H locs hP hD hS => ?_)
    have hP : va_P D vwCl [(h0, .inr (6, [.ref ob, .ref sc, .ref gr, .int (nI gc), .int (nI (gn + 1)), .int (nI 1), .int idl, .int g, .int bl, .int la]))] H := hP
    have hD : va_D A [(h0, .inr (6, [.ref ob, .ref sc, .ref gr, .int (nI gc), .int (nI (gn + 1)), .int (nI 1), .int idl, .int g, .int bl, .int la]))] := hD
    refine lv_aload_n hx hb dX6_noteGroupSent_33 rfl (lv_at hl 0 rfl) ?_
    refine va_get (D := D) (ci := 6) (v := .int (nI (gn + 1))) (C := RX6) (T := TX6) (N := 10) hx hb hts inX6_noteGroupSent_X6 hown hK hP 0 rfl rfl 4 (by decide) (hts (.fieldLink RX6 19 "ScrambledLine$Sender" "groupsSent" "I") (by decide +kernel)) (fun _ h9 => h9) rfl dX6_noteGroupSent_34 ?_
    refine lv_aload_n hx hb dX6_noteGroupSent_37 rfl (lv_at hl 0 rfl) ?_
    refine va_get (D := D) (ci := 6) (v := .int (nI gc)) (C := RX6) (T := TX6) (N := 10) hx hb hts inX6_noteGroupSent_X6 hown hK hP 0 rfl rfl 3 (by decide) (hts (.fieldLink RX6 15 "ScrambledLine$Sender" "groupCount" "I") (by decide +kernel)) (fun _ h9 => h9) rfl dX6_noteGroupSent_38 ?_
    refine lv_icmp_lt (tgt := 54) hx hb dX6_noteGroupSent_41 (by decide) (fun c41 => ?_) (fun c41 => ?_)
    · skip
      have k41 : (gn + 1) < gc := (nI_ltI (a := (gn + 1)) (b := gc) (by omega) (by omega)).mp c41
      refine W_q hQ ?_
      exact rt_v () hx hb hr hlocks dX6_noteGroupSent_54 hS hP hD trivial
    · skip
      have k41 : ¬ (gn + 1) < gc := fun zq => c41 ((nI_ltI (a := (gn + 1)) (b := gc) (by omega) (by omega)).mpr zq)
      exact False.elim (by omega)
  · skip
    have k4 : 1 = 0 := (nI_eq (a := 1) (b := 0) (by omega) (by omega)).mp c4
    exact False.elim (by omega)

set_option maxHeartbeats 4000000 in
set_option maxRecDepth 100000 in
theorem c_X6_noteGroupSent_last (l : Launch) (D : va_G) (cI cG : ClassId) (tt : Nat × Nat × Nat) (sz : Nat) (h0 : Nat) (ob : Nat) (sc : Nat) (gr : Nat) (gc : Nat) (gn : Nat) (idl : Int32) (g : Int32) (bl : Int32) (la : Int32) (hc : gc ≤ 70) (hn : gn < 70) (hh : ¬ gn + 1 < gc) : Met l yX6_noteGroupSent wsX6_noteGroupSent ({ frames := 1, cells := 0, slots := 0, locals := 20 }) (PC D cI cG tt [.ref h0] [(h0, .inr (6, [.ref ob, .ref sc, .ref gr, .int (nI gc), .int (nI gn), .int (nI 1), .int idl, .int g, .int bl, .int la]))] sz) (QV (fun (u : Unit) => True) (fun (u : Unit) => [(h0, .inr (6, [.ref ob, .ref sc, .ref gr, .int (nI gc), .int (nI (gn + 1)), .int (nI 0), .int (nI 0), .int g, .int bl, .int la]))]) D (va_A [(h0, .inr (6, [.ref ob, .ref sc, .ref gr, .int (nI gc), .int (nI gn), .int (nI 1), .int idl, .int g, .int bl, .int la]))] sz)) 0 0 (va_A [(h0, .inr (6, [.ref ob, .ref sc, .ref gr, .int (nI gc), .int (nI gn), .int (nI 1), .int idl, .int g, .int bl, .int la]))] sz) := by
  refine ct_of (y := yX6_noteGroupSent) (cc := cX6_noteGroupSent) (maxL := 1) (ret := none) (Qf := QV (fun (u : Unit) => True) (fun (u : Unit) => [(h0, .inr (6, [.ref ob, .ref sc, .ref gr, .int (nI gc), .int (nI (gn + 1)), .int (nI 0), .int (nI 0), .int g, .int bl, .int la]))]) D) (by decide) rfl ?_
  intro p e s m args below meth c A Q R H locs hR hQ hx hb hml hr hts hown hlocks hin hP hD hE hT hA hS
  have hK := hE.1
  have hl := lv_entry ([.ref h0]) (n := 1) (Nat.le_of_ble_eq_true rfl)
  rw [lg_entry_eq]
  generalize (lg_sl ([.ref h0]) ++ List.replicate (1 - (lg_sl ([.ref h0])).length) Slot.unset).toArray = ls at hl ⊢
  have hl : lv_has ls 1 [(0, .ref h0)] := hl
  refine lv_aload_n hx hb dX6_noteGroupSent_0 rfl (lv_at hl 0 rfl) ?_
  refine va_get (D := D) (ci := 6) (v := .int (nI 1)) (C := RX6) (T := TX6) (N := 10) hx hb hts inX6_noteGroupSent_X6 hown hK hP 0 rfl rfl 5 (by decide) (hts (.fieldLink RX6 22 "ScrambledLine$Sender" "inFrame" "Z") (by decide +kernel)) (fun _ h9 => h9) rfl dX6_noteGroupSent_1 ?_
  refine lv_if_ne (tgt := 23) hx hb dX6_noteGroupSent_4 (by decide) (fun c4 => ?_) (fun c4 => ?_)
  · skip
    have k4 : ¬ 1 = 0 := fun zq => c4 ((nI_eq (a := 1) (b := 0) (by omega) (by omega)).mpr zq)
    refine lv_aload_n hx hb dX6_noteGroupSent_23 rfl (lv_at hl 0 rfl) ?_
    refine lv_dup hx hb dX6_noteGroupSent_24 rfl ?_
    refine va_get (D := D) (ci := 6) (v := .int (nI gn)) (C := RX6) (T := TX6) (N := 10) hx hb hts inX6_noteGroupSent_X6 hown hK hP 0 rfl rfl 4 (by decide) (hts (.fieldLink RX6 19 "ScrambledLine$Sender" "groupsSent" "I") (by decide +kernel)) (fun _ h9 => h9) rfl dX6_noteGroupSent_25 ?_
    refine lv_iconst (v := nI 1) hx hb dX6_noteGroupSent_28 rfl ?_
    refine lv_iadd hx hb dX6_noteGroupSent_29 ?_
    refine lv_to (y := nI (gn + 1)) (nI_add gn 1) ?_
    refine va_put (D := D) (ci := 6) (v := .int (nI (gn + 1))) (ty := .int) (C := RX6) (T := TX6) (N := 10) hx hb hts inX6_noteGroupSent_X6 tyX6 tyX6_ok nmX6 hown hK hP hD hS 0 rfl rfl 4 (by decide) (hts (.fieldLink RX6 19 "ScrambledLine$Sender" "groupsSent" "I") (by decide +kernel)) (fun _ h9 => h9) rfl (by decide +kernel) rfl rfl (Nat.le_of_ble_eq_true rfl) dX6_noteGroupSent_30 (fun H locs hP hD hS => ?_)
    have hP : va_P D vwCl [(h0, .inr (6, [.ref ob, .ref sc, .ref gr, .int (nI gc), .int (nI (gn + 1)), .int (nI 1), .int idl, .int g, .int bl, .int la]))] H := hP
    have hD : va_D A [(h0, .inr (6, [.ref ob, .ref sc, .ref gr, .int (nI gc), .int (nI (gn + 1)), .int (nI 1), .int idl, .int g, .int bl, .int la]))] := hD
    refine lv_aload_n hx hb dX6_noteGroupSent_33 rfl (lv_at hl 0 rfl) ?_
    refine va_get (D := D) (ci := 6) (v := .int (nI (gn + 1))) (C := RX6) (T := TX6) (N := 10) hx hb hts inX6_noteGroupSent_X6 hown hK hP 0 rfl rfl 4 (by decide) (hts (.fieldLink RX6 19 "ScrambledLine$Sender" "groupsSent" "I") (by decide +kernel)) (fun _ h9 => h9) rfl dX6_noteGroupSent_34 ?_
    refine lv_aload_n hx hb dX6_noteGroupSent_37 rfl (lv_at hl 0 rfl) ?_
    refine va_get (D := D) (ci := 6) (v := .int (nI gc)) (C := RX6) (T := TX6) (N := 10) hx hb hts inX6_noteGroupSent_X6 hown hK hP 0 rfl rfl 3 (by decide) (hts (.fieldLink RX6 15 "ScrambledLine$Sender" "groupCount" "I") (by decide +kernel)) (fun _ h9 => h9) rfl dX6_noteGroupSent_38 ?_
    refine lv_icmp_lt (tgt := 54) hx hb dX6_noteGroupSent_41 (by decide) (fun c41 => ?_) (fun c41 => ?_)
    · skip
      have k41 : (gn + 1) < gc := (nI_ltI (a := (gn + 1)) (b := gc) (by omega) (by omega)).mp c41
      exact False.elim (by omega)
    · skip
      have k41 : ¬ (gn + 1) < gc := fun zq => c41 ((nI_ltI (a := (gn + 1)) (b := gc) (by omega) (by omega)).mpr zq)
      refine lv_aload_n hx hb dX6_noteGroupSent_44 rfl (lv_at hl 0 rfl) ?_
      refine lv_iconst (v := nI 0) hx hb dX6_noteGroupSent_45 rfl ?_
      refine va_put (D := D) (ci := 6) (v := .int (nI 0)) (ty := .boolean) (C := RX6) (T := TX6) (N := 10) hx hb hts inX6_noteGroupSent_X6 tyX6 tyX6_ok nmX6 hown hK hP hD hS 0 rfl rfl 5 (by decide) (hts (.fieldLink RX6 22 "ScrambledLine$Sender" "inFrame" "Z") (by decide +kernel)) (fun _ h9 => h9) rfl (by decide +kernel) rfl rfl (Nat.le_of_ble_eq_true rfl) dX6_noteGroupSent_46 (fun H locs hP hD hS => ?_)
      have hP : va_P D vwCl [(h0, .inr (6, [.ref ob, .ref sc, .ref gr, .int (nI gc), .int (nI (gn + 1)), .int (nI 0), .int idl, .int g, .int bl, .int la]))] H := hP
      have hD : va_D A [(h0, .inr (6, [.ref ob, .ref sc, .ref gr, .int (nI gc), .int (nI (gn + 1)), .int (nI 0), .int idl, .int g, .int bl, .int la]))] := hD
      refine lv_aload_n hx hb dX6_noteGroupSent_49 rfl (lv_at hl 0 rfl) ?_
      refine lv_iconst (v := nI 0) hx hb dX6_noteGroupSent_50 rfl ?_
      refine va_put (D := D) (ci := 6) (v := .int (nI 0)) (ty := .int) (C := RX6) (T := TX6) (N := 10) hx hb hts inX6_noteGroupSent_X6 tyX6 tyX6_ok nmX6 hown hK hP hD hS 0 rfl rfl 6 (by decide) (hts (.fieldLink RX6 26 "ScrambledLine$Sender" "idles" "I") (by decide +kernel)) (fun _ h9 => h9) rfl (by decide +kernel) rfl rfl (Nat.le_of_ble_eq_true rfl) dX6_noteGroupSent_51 (fun H locs hP hD hS => ?_)
      have hP : va_P D vwCl [(h0, .inr (6, [.ref ob, .ref sc, .ref gr, .int (nI gc), .int (nI (gn + 1)), .int (nI 0), .int (nI 0), .int g, .int bl, .int la]))] H := hP
      have hD : va_D A [(h0, .inr (6, [.ref ob, .ref sc, .ref gr, .int (nI gc), .int (nI (gn + 1)), .int (nI 0), .int (nI 0), .int g, .int bl, .int la]))] := hD
      refine W_q hQ ?_
      exact rt_v () hx hb hr hlocks dX6_noteGroupSent_54 hS hP hD trivial
  · skip
    have k4 : 1 = 0 := (nI_eq (a := 1) (b := 0) (by omega) (by omega)).mp c4
    exact False.elim (by omega)

theorem inX6_sendBit_X6 : ∀ w ∈ u_ws RX6 TX6 10, w ∈ wsX6_sendBit := by decide +kernel
set_option maxHeartbeats 4000000 in
set_option maxRecDepth 100000 in
theorem c_X6_sendBit_mid (l : Launch) (D : va_G) (cI cG : ClassId) (tt : Nat × Nat × Nat) (sz : Nat) (h0 : Nat) (ob : Nat) (sc : Nat) (gr : Nat) (gc : Int32) (gn : Int32) (inf : Int32) (idl : Int32) (g : Nat) (bl : Nat) (la : Nat) (ear : Nat) (hear : ear < 2048) (hla : la < 4) (hg : g < 32) (hbl : 2 ≤ bl) (hbl2 : bl ≤ 5) : Met l yX6_sendBit wsX6_sendBit ({ frames := 4, cells := 0, slots := 0, locals := 77 }) (PC D cI cG tt [.ref h0] [(h0, .inr (6, [.ref ob, .ref sc, .ref gr, .int gc, .int gn, .int inf, .int idl, .int (nI g), .int (nI bl), .int (nI la)])), (sc, .inr (5, [.int (nI ear)]))] sz) (QV (fun (u : Unit) => True) (fun (u : Unit) => [(h0, .inr (6, [.ref ob, .ref sc, .ref gr, .int gc, .int gn, .int inf, .int idl, .int (nI g), .int (nI (bl - 1)), .int (nI ((la + (g / 2 ^ (bl - 1) % 2 + kN ear) % 2) % 4))])), (sc, .inr (5, [.int (nI (rN ear (kN ear)))]))]) D (va_A [(h0, .inr (6, [.ref ob, .ref sc, .ref gr, .int gc, .int gn, .int inf, .int idl, .int (nI g), .int (nI bl), .int (nI la)])), (sc, .inr (5, [.int (nI ear)]))] sz)) 0 0 (va_A [(h0, .inr (6, [.ref ob, .ref sc, .ref gr, .int gc, .int gn, .int inf, .int idl, .int (nI g), .int (nI bl), .int (nI la)])), (sc, .inr (5, [.int (nI ear)]))] sz) := by
  refine ct_of (y := yX6_sendBit) (cc := cX6_sendBit) (maxL := 3) (ret := none) (Qf := QV (fun (u : Unit) => True) (fun (u : Unit) => [(h0, .inr (6, [.ref ob, .ref sc, .ref gr, .int gc, .int gn, .int inf, .int idl, .int (nI g), .int (nI (bl - 1)), .int (nI ((la + (g / 2 ^ (bl - 1) % 2 + kN ear) % 2) % 4))])), (sc, .inr (5, [.int (nI (rN ear (kN ear)))]))]) D) (by decide) rfl ?_
  intro p e s m args below meth c A Q R H locs hR hQ hx hb hml hr hts hown hlocks hin hP hD hE hT hA hS
  have hK := hE.1
  have hl := lv_entry ([.ref h0]) (n := 3) (Nat.le_of_ble_eq_true rfl)
  rw [lg_entry_eq]
  generalize (lg_sl ([.ref h0]) ++ List.replicate (3 - (lg_sl ([.ref h0])).length) Slot.unset).toArray = ls at hl ⊢
  have hl : lv_has ls 3 [(0, .ref h0)] := hl
  have hk2 := kN_lt ear
  refine lv_aload_n hx hb dX6_sendBit_0 rfl (lv_at hl 0 rfl) ?_
  refine va_get (D := D) (ci := 6) (v := .int (nI bl)) (C := RX6) (T := TX6) (N := 10) hx hb hts inX6_sendBit_X6 hown hK hP 0 rfl rfl 8 (by decide) (hts (.fieldLink RX6 32 "ScrambledLine$Sender" "bitsLeft" "I") (by decide +kernel)) (fun _ h9 => h9) rfl dX6_sendBit_1 ?_
  refine lv_if_ne (tgt := 11) hx hb dX6_sendBit_4 (by decide) (fun c4 => ?_) (fun c4 => ?_)
  · skip
    have k4 : ¬ bl = 0 := fun zq => c4 ((nI_eq (a := bl) (b := 0) (by omega) (by omega)).mpr zq)
    refine lv_aload_n hx hb dX6_sendBit_11 rfl (lv_at hl 0 rfl) ?_
    refine lv_dup hx hb dX6_sendBit_12 rfl ?_
    refine va_get (D := D) (ci := 6) (v := .int (nI bl)) (C := RX6) (T := TX6) (N := 10) hx hb hts inX6_sendBit_X6 hown hK hP 0 rfl rfl 8 (by decide) (hts (.fieldLink RX6 32 "ScrambledLine$Sender" "bitsLeft" "I") (by decide +kernel)) (fun _ h9 => h9) rfl dX6_sendBit_13 ?_
    refine lv_iconst (v := nI 1) hx hb dX6_sendBit_16 rfl ?_
    refine lv_isub hx hb dX6_sendBit_17 ?_
    refine lv_to (y := nI (bl - 1)) (pk_sub (a := bl) (b := 1) (by omega)) ?_
    refine va_put (D := D) (ci := 6) (v := .int (nI (bl - 1))) (ty := .int) (C := RX6) (T := TX6) (N := 10) hx hb hts inX6_sendBit_X6 tyX6 tyX6_ok nmX6 hown hK hP hD hS 0 rfl rfl 8 (by decide) (hts (.fieldLink RX6 32 "ScrambledLine$Sender" "bitsLeft" "I") (by decide +kernel)) (fun _ h9 => h9) rfl (by decide +kernel) rfl rfl (Nat.le_of_ble_eq_true rfl) dX6_sendBit_18 (fun H locs hP hD hS => ?_)
    have hP : va_P D vwCl [(h0, .inr (6, [.ref ob, .ref sc, .ref gr, .int gc, .int gn, .int inf, .int idl, .int (nI g), .int (nI (bl - 1)), .int (nI la)])), (sc, .inr (5, [.int (nI ear)]))] H := hP
    have hD : va_D A [(h0, .inr (6, [.ref ob, .ref sc, .ref gr, .int gc, .int gn, .int inf, .int idl, .int (nI g), .int (nI (bl - 1)), .int (nI la)])), (sc, .inr (5, [.int (nI ear)]))] := hD
    refine lv_aload_n hx hb dX6_sendBit_21 rfl (lv_at hl 0 rfl) ?_
    refine va_get (D := D) (ci := 6) (v := .int (nI g)) (C := RX6) (T := TX6) (N := 10) hx hb hts inX6_sendBit_X6 hown hK hP 0 rfl rfl 7 (by decide) (hts (.fieldLink RX6 29 "ScrambledLine$Sender" "group" "I") (by decide +kernel)) (fun _ h9 => h9) rfl dX6_sendBit_22 ?_
    refine lv_aload_n hx hb dX6_sendBit_25 rfl (lv_at hl 0 rfl) ?_
    refine va_get (D := D) (ci := 6) (v := .int (nI (bl - 1))) (C := RX6) (T := TX6) (N := 10) hx hb hts inX6_sendBit_X6 hown hK hP 0 rfl rfl 8 (by decide) (hts (.fieldLink RX6 32 "ScrambledLine$Sender" "bitsLeft" "I") (by decide +kernel)) (fun _ h9 => h9) rfl dX6_sendBit_26 ?_
    refine lv_iushr (v := ((nI g).toUInt32 >>> ((nI (bl - 1)).toUInt32 &&& Int32.toUInt32 31)).toInt32) hx hb dX6_sendBit_29 rfl ?_
    refine lv_iconst (v := nI 1) hx hb dX6_sendBit_30 rfl ?_
    refine lv_iand hx hb dX6_sendBit_31 ?_
    refine lv_to (y := nI (g / 2 ^ (bl - 1) % 2)) (sb_sh (by omega) (by omega)) ?_
    refine lv_istore_n (lv' := [(1, .int (nI (g / 2 ^ (bl - 1) % 2))), (0, .ref h0)]) hx hb dX6_sendBit_32 rfl hl (by decide) rfl (fun ls hl => ?_)
    refine lv_aload_n hx hb dX6_sendBit_33 rfl (lv_at hl 1 rfl) ?_
    refine va_get (D := D) (ci := 6) (v := .ref sc) (C := RX6) (T := TX6) (N := 10) hx hb hts inX6_sendBit_X6 hown hK hP 0 rfl rfl 1 (by decide) (hts (.fieldLink RX6 49 "ScrambledLine$Sender" "scrambler" "LScrambledLine$Scrambler;") (by decide +kernel)) (fun _ h9 => h9) rfl dX6_sendBit_34 ?_
    refine ca_i (wr := [(h0, .inr (6, [.ref ob, .ref sc, .ref gr, .int gc, .int gn, .int inf, .int idl, .int (nI g), .int (nI (bl - 1)), .int (nI la)]))]) (ru_V (As := []) (rest := []) ⟨hx, hb, hml, hown, hts⟩ (c_X5_key l D cI cG tt H.size sc ear (by omega)) (cwV 0 hts gX6_sendBit_X5_key rfl rfl rfl (by decide +kernel) ⟨by rw [hR]; exact Nat.le_of_ble_eq_true rfl, by rw [hR]; exact Nat.le_of_ble_eq_true rfl⟩) hP hD hE hT hS hA [1] rfl (by decide) (va_recv hK hP (ci := 5) (q0 := 1) rfl rfl) rfl hl.1 rfl (Nat.le_of_ble_eq_true rfl) dX6_sendBit_37 ⟨by rw [hR]; exact Nat.le_of_ble_eq_true rfl, by rw [hR]; exact Nat.le_of_ble_eq_true rfl⟩) hP hD hS hA [1] [0] rfl rfl (by decide) (by decide) (fun r37 u H locs hw hP hD hS => ?_)
    obtain rfl := hw
    have hP : va_P D vwCl [(h0, .inr (6, [.ref ob, .ref sc, .ref gr, .int gc, .int gn, .int inf, .int idl, .int (nI g), .int (nI (bl - 1)), .int (nI la)])), (sc, .inr (5, [.int (nI ear)]))] H := hP
    have hD : va_D A [(h0, .inr (6, [.ref ob, .ref sc, .ref gr, .int gc, .int gn, .int inf, .int idl, .int (nI g), .int (nI (bl - 1)), .int (nI la)])), (sc, .inr (5, [.int (nI ear)]))] := hD
    refine lv_istore_n (lv' := [(2, .int (nI (kN ear))), (1, .int (nI (g / 2 ^ (bl - 1) % 2))), (0, .ref h0)]) hx hb dX6_sendBit_40 rfl hl (by decide) rfl (fun ls hl => ?_)
    refine lv_aload_n hx hb dX6_sendBit_41 rfl (lv_at hl 2 rfl) ?_
    refine va_get (D := D) (ci := 6) (v := .ref sc) (C := RX6) (T := TX6) (N := 10) hx hb hts inX6_sendBit_X6 hown hK hP 0 rfl rfl 1 (by decide) (hts (.fieldLink RX6 49 "ScrambledLine$Sender" "scrambler" "LScrambledLine$Scrambler;") (by decide +kernel)) (fun _ h9 => h9) rfl dX6_sendBit_42 ?_
    refine lv_iload_n hx hb dX6_sendBit_45 rfl (lv_at hl 0 rfl) ?_
    refine ca_v (wr := [(h0, .inr (6, [.ref ob, .ref sc, .ref gr, .int gc, .int gn, .int inf, .int idl, .int (nI g), .int (nI (bl - 1)), .int (nI la)]))]) (ru_V (As := [.int (nI (kN ear))]) (rest := []) ⟨hx, hb, hml, hown, hts⟩ (c_X5_shiftIn l D cI cG tt H.size sc ear (kN ear) (by omega) (by omega)) (cwV 1 hts gX6_sendBit_X5_shiftIn rfl rfl rfl (by decide +kernel) ⟨by rw [hR]; exact Nat.le_of_ble_eq_true rfl, by rw [hR]; exact Nat.le_of_ble_eq_true rfl⟩) hP hD hE hT hS hA [1] rfl (by decide) (va_recv hK hP (ci := 5) (q0 := 1) rfl rfl) rfl hl.1 rfl (Nat.le_of_ble_eq_true rfl) dX6_sendBit_46 ⟨by rw [hR]; exact Nat.le_of_ble_eq_true rfl, by rw [hR]; exact Nat.le_of_ble_eq_true rfl⟩) hP hD hS hA [1] [0] rfl rfl (by decide) (by decide) (fun u H locs hw hP hD hS => ?_)
    have hP : va_P D vwCl [(h0, .inr (6, [.ref ob, .ref sc, .ref gr, .int gc, .int gn, .int inf, .int idl, .int (nI g), .int (nI (bl - 1)), .int (nI la)])), (sc, .inr (5, [.int (nI (rN ear (kN ear)))]))] H := hP
    have hD : va_D A [(h0, .inr (6, [.ref ob, .ref sc, .ref gr, .int gc, .int gn, .int inf, .int idl, .int (nI g), .int (nI (bl - 1)), .int (nI la)])), (sc, .inr (5, [.int (nI (rN ear (kN ear)))]))] := hD
    refine lv_aload_n hx hb dX6_sendBit_49 rfl (lv_at hl 2 rfl) ?_
    refine lv_aload_n hx hb dX6_sendBit_50 rfl (lv_at hl 2 rfl) ?_
    refine va_get (D := D) (ci := 6) (v := .int (nI la)) (C := RX6) (T := TX6) (N := 10) hx hb hts inX6_sendBit_X6 hown hK hP 0 rfl rfl 9 (by decide) (hts (.fieldLink RX6 35 "ScrambledLine$Sender" "levelAt" "I") (by decide +kernel)) (fun _ h9 => h9) rfl dX6_sendBit_51 ?_
    refine lv_iload_n hx hb dX6_sendBit_54 rfl (lv_at hl 1 rfl) ?_
    refine lv_iload_n hx hb dX6_sendBit_55 rfl (lv_at hl 0 rfl) ?_
    refine lv_ixor hx hb dX6_sendBit_56 ?_
    refine lv_to (y := nI ((g / 2 ^ (bl - 1) % 2 + kN ear) % 2)) (xr (Nat.mod_lt _ (by decide)) hk2) ?_
    refine lv_iadd hx hb dX6_sendBit_57 ?_
    refine lv_to (y := nI (la + ((g / 2 ^ (bl - 1) % 2 + kN ear) % 2))) (nI_add la ((g / 2 ^ (bl - 1) % 2 + kN ear) % 2)) ?_
    refine lv_iconst (v := nI 4) hx hb dX6_sendBit_58 rfl ?_
    refine lv_irem hx hb dX6_sendBit_59 (by decide) ?_
    refine lv_to (y := nI ((la + (g / 2 ^ (bl - 1) % 2 + kN ear) % 2) % 4)) (pk_rem (by omega) (by decide) (by decide)) ?_
    refine va_put (D := D) (ci := 6) (v := .int (nI ((la + (g / 2 ^ (bl - 1) % 2 + kN ear) % 2) % 4))) (ty := .int) (C := RX6) (T := TX6) (N := 10) hx hb hts inX6_sendBit_X6 tyX6 tyX6_ok nmX6 hown hK hP hD hS 0 rfl rfl 9 (by decide) (hts (.fieldLink RX6 35 "ScrambledLine$Sender" "levelAt" "I") (by decide +kernel)) (fun _ h9 => h9) rfl (by decide +kernel) rfl rfl (Nat.le_of_ble_eq_true rfl) dX6_sendBit_60 (fun H locs hP hD hS => ?_)
    have hP : va_P D vwCl [(h0, .inr (6, [.ref ob, .ref sc, .ref gr, .int gc, .int gn, .int inf, .int idl, .int (nI g), .int (nI (bl - 1)), .int (nI ((la + (g / 2 ^ (bl - 1) % 2 + kN ear) % 2) % 4))])), (sc, .inr (5, [.int (nI (rN ear (kN ear)))]))] H := hP
    have hD : va_D A [(h0, .inr (6, [.ref ob, .ref sc, .ref gr, .int gc, .int gn, .int inf, .int idl, .int (nI g), .int (nI (bl - 1)), .int (nI ((la + (g / 2 ^ (bl - 1) % 2 + kN ear) % 2) % 4))])), (sc, .inr (5, [.int (nI (rN ear (kN ear)))]))] := hD
    refine lv_aload_n hx hb dX6_sendBit_63 rfl (lv_at hl 2 rfl) ?_
    refine va_get (D := D) (ci := 6) (v := .int (nI (bl - 1))) (C := RX6) (T := TX6) (N := 10) hx hb hts inX6_sendBit_X6 hown hK hP 0 rfl rfl 8 (by decide) (hts (.fieldLink RX6 32 "ScrambledLine$Sender" "bitsLeft" "I") (by decide +kernel)) (fun _ h9 => h9) rfl dX6_sendBit_64 ?_
    refine lv_if_ne (tgt := 74) hx hb dX6_sendBit_67 (by decide) (fun c67 => ?_) (fun c67 => ?_)
    · skip
      have k67 : ¬ (bl - 1) = 0 := fun zq => c67 ((nI_eq (a := (bl - 1)) (b := 0) (by omega) (by omega)).mpr zq)
      refine W_q hQ ?_
      exact rt_v () hx hb hr hlocks dX6_sendBit_74 hS hP hD trivial
    · skip
      have k67 : (bl - 1) = 0 := (nI_eq (a := (bl - 1)) (b := 0) (by omega) (by omega)).mp c67
      exact False.elim (by omega)
  · skip
    have k4 : bl = 0 := (nI_eq (a := bl) (b := 0) (by omega) (by omega)).mp c4
    exact False.elim (by omega)

set_option maxHeartbeats 4000000 in
set_option maxRecDepth 100000 in
theorem c_X6_sendBit_eidle (l : Launch) (D : va_G) (cI cG : ClassId) (tt : Nat × Nat × Nat) (sz : Nat) (h0 : Nat) (ob : Nat) (sc : Nat) (gr : Nat) (gc : Int32) (gn : Int32) (idl : Nat) (g : Nat) (la : Nat) (ear : Nat) (hear : ear < 2048) (hla : la < 4) (hg : g < 32) (hid : idl ≤ 6) : Met l yX6_sendBit wsX6_sendBit ({ frames := 4, cells := 0, slots := 0, locals := 77 }) (PC D cI cG tt [.ref h0] [(h0, .inr (6, [.ref ob, .ref sc, .ref gr, .int gc, .int gn, .int (nI 0), .int (nI idl), .int (nI g), .int (nI 1), .int (nI la)])), (sc, .inr (5, [.int (nI ear)]))] sz) (QV (fun (u : Unit) => True) (fun (u : Unit) => [(h0, .inr (6, [.ref ob, .ref sc, .ref gr, .int gc, .int gn, .int (nI 0), .int (nI (min (idl + 1) 6)), .int (nI g), .int (nI 0), .int (nI ((la + (g / 2 ^ 0 % 2 + kN ear) % 2) % 4))])), (sc, .inr (5, [.int (nI (rN ear (kN ear)))]))]) D (va_A [(h0, .inr (6, [.ref ob, .ref sc, .ref gr, .int gc, .int gn, .int (nI 0), .int (nI idl), .int (nI g), .int (nI 1), .int (nI la)])), (sc, .inr (5, [.int (nI ear)]))] sz)) 0 0 (va_A [(h0, .inr (6, [.ref ob, .ref sc, .ref gr, .int gc, .int gn, .int (nI 0), .int (nI idl), .int (nI g), .int (nI 1), .int (nI la)])), (sc, .inr (5, [.int (nI ear)]))] sz) := by
  refine ct_of (y := yX6_sendBit) (cc := cX6_sendBit) (maxL := 3) (ret := none) (Qf := QV (fun (u : Unit) => True) (fun (u : Unit) => [(h0, .inr (6, [.ref ob, .ref sc, .ref gr, .int gc, .int gn, .int (nI 0), .int (nI (min (idl + 1) 6)), .int (nI g), .int (nI 0), .int (nI ((la + (g / 2 ^ 0 % 2 + kN ear) % 2) % 4))])), (sc, .inr (5, [.int (nI (rN ear (kN ear)))]))]) D) (by decide) rfl ?_
  intro p e s m args below meth c A Q R H locs hR hQ hx hb hml hr hts hown hlocks hin hP hD hE hT hA hS
  have hK := hE.1
  have hl := lv_entry ([.ref h0]) (n := 3) (Nat.le_of_ble_eq_true rfl)
  rw [lg_entry_eq]
  generalize (lg_sl ([.ref h0]) ++ List.replicate (3 - (lg_sl ([.ref h0])).length) Slot.unset).toArray = ls at hl ⊢
  have hl : lv_has ls 3 [(0, .ref h0)] := hl
  have hk2 := kN_lt ear
  refine lv_aload_n hx hb dX6_sendBit_0 rfl (lv_at hl 0 rfl) ?_
  refine va_get (D := D) (ci := 6) (v := .int (nI 1)) (C := RX6) (T := TX6) (N := 10) hx hb hts inX6_sendBit_X6 hown hK hP 0 rfl rfl 8 (by decide) (hts (.fieldLink RX6 32 "ScrambledLine$Sender" "bitsLeft" "I") (by decide +kernel)) (fun _ h9 => h9) rfl dX6_sendBit_1 ?_
  refine lv_if_ne (tgt := 11) hx hb dX6_sendBit_4 (by decide) (fun c4 => ?_) (fun c4 => ?_)
  · skip
    have k4 : ¬ 1 = 0 := fun zq => c4 ((nI_eq (a := 1) (b := 0) (by omega) (by omega)).mpr zq)
    refine lv_aload_n hx hb dX6_sendBit_11 rfl (lv_at hl 0 rfl) ?_
    refine lv_dup hx hb dX6_sendBit_12 rfl ?_
    refine va_get (D := D) (ci := 6) (v := .int (nI 1)) (C := RX6) (T := TX6) (N := 10) hx hb hts inX6_sendBit_X6 hown hK hP 0 rfl rfl 8 (by decide) (hts (.fieldLink RX6 32 "ScrambledLine$Sender" "bitsLeft" "I") (by decide +kernel)) (fun _ h9 => h9) rfl dX6_sendBit_13 ?_
    refine lv_iconst (v := nI 1) hx hb dX6_sendBit_16 rfl ?_
    refine lv_isub hx hb dX6_sendBit_17 ?_
    refine lv_to (y := nI 0) (pk_sub (a := 1) (b := 1) (by omega)) ?_
    refine va_put (D := D) (ci := 6) (v := .int (nI 0)) (ty := .int) (C := RX6) (T := TX6) (N := 10) hx hb hts inX6_sendBit_X6 tyX6 tyX6_ok nmX6 hown hK hP hD hS 0 rfl rfl 8 (by decide) (hts (.fieldLink RX6 32 "ScrambledLine$Sender" "bitsLeft" "I") (by decide +kernel)) (fun _ h9 => h9) rfl (by decide +kernel) rfl rfl (Nat.le_of_ble_eq_true rfl) dX6_sendBit_18 (fun H locs hP hD hS => ?_)
    have hP : va_P D vwCl [(h0, .inr (6, [.ref ob, .ref sc, .ref gr, .int gc, .int gn, .int (nI 0), .int (nI idl), .int (nI g), .int (nI 0), .int (nI la)])), (sc, .inr (5, [.int (nI ear)]))] H := hP
    have hD : va_D A [(h0, .inr (6, [.ref ob, .ref sc, .ref gr, .int gc, .int gn, .int (nI 0), .int (nI idl), .int (nI g), .int (nI 0), .int (nI la)])), (sc, .inr (5, [.int (nI ear)]))] := hD
    refine lv_aload_n hx hb dX6_sendBit_21 rfl (lv_at hl 0 rfl) ?_
    refine va_get (D := D) (ci := 6) (v := .int (nI g)) (C := RX6) (T := TX6) (N := 10) hx hb hts inX6_sendBit_X6 hown hK hP 0 rfl rfl 7 (by decide) (hts (.fieldLink RX6 29 "ScrambledLine$Sender" "group" "I") (by decide +kernel)) (fun _ h9 => h9) rfl dX6_sendBit_22 ?_
    refine lv_aload_n hx hb dX6_sendBit_25 rfl (lv_at hl 0 rfl) ?_
    refine va_get (D := D) (ci := 6) (v := .int (nI 0)) (C := RX6) (T := TX6) (N := 10) hx hb hts inX6_sendBit_X6 hown hK hP 0 rfl rfl 8 (by decide) (hts (.fieldLink RX6 32 "ScrambledLine$Sender" "bitsLeft" "I") (by decide +kernel)) (fun _ h9 => h9) rfl dX6_sendBit_26 ?_
    refine lv_iushr (v := ((nI g).toUInt32 >>> ((nI 0).toUInt32 &&& Int32.toUInt32 31)).toInt32) hx hb dX6_sendBit_29 rfl ?_
    refine lv_iconst (v := nI 1) hx hb dX6_sendBit_30 rfl ?_
    refine lv_iand hx hb dX6_sendBit_31 ?_
    refine lv_to (y := nI (g / 2 ^ 0 % 2)) (sb_sh (by omega) (by omega)) ?_
    refine lv_istore_n (lv' := [(1, .int (nI (g / 2 ^ 0 % 2))), (0, .ref h0)]) hx hb dX6_sendBit_32 rfl hl (by decide) rfl (fun ls hl => ?_)
    refine lv_aload_n hx hb dX6_sendBit_33 rfl (lv_at hl 1 rfl) ?_
    refine va_get (D := D) (ci := 6) (v := .ref sc) (C := RX6) (T := TX6) (N := 10) hx hb hts inX6_sendBit_X6 hown hK hP 0 rfl rfl 1 (by decide) (hts (.fieldLink RX6 49 "ScrambledLine$Sender" "scrambler" "LScrambledLine$Scrambler;") (by decide +kernel)) (fun _ h9 => h9) rfl dX6_sendBit_34 ?_
    refine ca_i (wr := [(h0, .inr (6, [.ref ob, .ref sc, .ref gr, .int gc, .int gn, .int (nI 0), .int (nI idl), .int (nI g), .int (nI 0), .int (nI la)]))]) (ru_V (As := []) (rest := []) ⟨hx, hb, hml, hown, hts⟩ (c_X5_key l D cI cG tt H.size sc ear (by omega)) (cwV 0 hts gX6_sendBit_X5_key rfl rfl rfl (by decide +kernel) ⟨by rw [hR]; exact Nat.le_of_ble_eq_true rfl, by rw [hR]; exact Nat.le_of_ble_eq_true rfl⟩) hP hD hE hT hS hA [1] rfl (by decide) (va_recv hK hP (ci := 5) (q0 := 1) rfl rfl) rfl hl.1 rfl (Nat.le_of_ble_eq_true rfl) dX6_sendBit_37 ⟨by rw [hR]; exact Nat.le_of_ble_eq_true rfl, by rw [hR]; exact Nat.le_of_ble_eq_true rfl⟩) hP hD hS hA [1] [0] rfl rfl (by decide) (by decide) (fun r37 u H locs hw hP hD hS => ?_)
    obtain rfl := hw
    have hP : va_P D vwCl [(h0, .inr (6, [.ref ob, .ref sc, .ref gr, .int gc, .int gn, .int (nI 0), .int (nI idl), .int (nI g), .int (nI 0), .int (nI la)])), (sc, .inr (5, [.int (nI ear)]))] H := hP
    have hD : va_D A [(h0, .inr (6, [.ref ob, .ref sc, .ref gr, .int gc, .int gn, .int (nI 0), .int (nI idl), .int (nI g), .int (nI 0), .int (nI la)])), (sc, .inr (5, [.int (nI ear)]))] := hD
    refine lv_istore_n (lv' := [(2, .int (nI (kN ear))), (1, .int (nI (g / 2 ^ 0 % 2))), (0, .ref h0)]) hx hb dX6_sendBit_40 rfl hl (by decide) rfl (fun ls hl => ?_)
    refine lv_aload_n hx hb dX6_sendBit_41 rfl (lv_at hl 2 rfl) ?_
    refine va_get (D := D) (ci := 6) (v := .ref sc) (C := RX6) (T := TX6) (N := 10) hx hb hts inX6_sendBit_X6 hown hK hP 0 rfl rfl 1 (by decide) (hts (.fieldLink RX6 49 "ScrambledLine$Sender" "scrambler" "LScrambledLine$Scrambler;") (by decide +kernel)) (fun _ h9 => h9) rfl dX6_sendBit_42 ?_
    refine lv_iload_n hx hb dX6_sendBit_45 rfl (lv_at hl 0 rfl) ?_
    refine ca_v (wr := [(h0, .inr (6, [.ref ob, .ref sc, .ref gr, .int gc, .int gn, .int (nI 0), .int (nI idl), .int (nI g), .int (nI 0), .int (nI la)]))]) (ru_V (As := [.int (nI (kN ear))]) (rest := []) ⟨hx, hb, hml, hown, hts⟩ (c_X5_shiftIn l D cI cG tt H.size sc ear (kN ear) (by omega) (by omega)) (cwV 1 hts gX6_sendBit_X5_shiftIn rfl rfl rfl (by decide +kernel) ⟨by rw [hR]; exact Nat.le_of_ble_eq_true rfl, by rw [hR]; exact Nat.le_of_ble_eq_true rfl⟩) hP hD hE hT hS hA [1] rfl (by decide) (va_recv hK hP (ci := 5) (q0 := 1) rfl rfl) rfl hl.1 rfl (Nat.le_of_ble_eq_true rfl) dX6_sendBit_46 ⟨by rw [hR]; exact Nat.le_of_ble_eq_true rfl, by rw [hR]; exact Nat.le_of_ble_eq_true rfl⟩) hP hD hS hA [1] [0] rfl rfl (by decide) (by decide) (fun u H locs hw hP hD hS => ?_)
    have hP : va_P D vwCl [(h0, .inr (6, [.ref ob, .ref sc, .ref gr, .int gc, .int gn, .int (nI 0), .int (nI idl), .int (nI g), .int (nI 0), .int (nI la)])), (sc, .inr (5, [.int (nI (rN ear (kN ear)))]))] H := hP
    have hD : va_D A [(h0, .inr (6, [.ref ob, .ref sc, .ref gr, .int gc, .int gn, .int (nI 0), .int (nI idl), .int (nI g), .int (nI 0), .int (nI la)])), (sc, .inr (5, [.int (nI (rN ear (kN ear)))]))] := hD
    refine lv_aload_n hx hb dX6_sendBit_49 rfl (lv_at hl 2 rfl) ?_
    refine lv_aload_n hx hb dX6_sendBit_50 rfl (lv_at hl 2 rfl) ?_
    refine va_get (D := D) (ci := 6) (v := .int (nI la)) (C := RX6) (T := TX6) (N := 10) hx hb hts inX6_sendBit_X6 hown hK hP 0 rfl rfl 9 (by decide) (hts (.fieldLink RX6 35 "ScrambledLine$Sender" "levelAt" "I") (by decide +kernel)) (fun _ h9 => h9) rfl dX6_sendBit_51 ?_
    refine lv_iload_n hx hb dX6_sendBit_54 rfl (lv_at hl 1 rfl) ?_
    refine lv_iload_n hx hb dX6_sendBit_55 rfl (lv_at hl 0 rfl) ?_
    refine lv_ixor hx hb dX6_sendBit_56 ?_
    refine lv_to (y := nI ((g / 2 ^ 0 % 2 + kN ear) % 2)) (xr (Nat.mod_lt _ (by decide)) hk2) ?_
    refine lv_iadd hx hb dX6_sendBit_57 ?_
    refine lv_to (y := nI (la + ((g / 2 ^ 0 % 2 + kN ear) % 2))) (nI_add la ((g / 2 ^ 0 % 2 + kN ear) % 2)) ?_
    refine lv_iconst (v := nI 4) hx hb dX6_sendBit_58 rfl ?_
    refine lv_irem hx hb dX6_sendBit_59 (by decide) ?_
    refine lv_to (y := nI ((la + (g / 2 ^ 0 % 2 + kN ear) % 2) % 4)) (pk_rem (by omega) (by decide) (by decide)) ?_
    refine va_put (D := D) (ci := 6) (v := .int (nI ((la + (g / 2 ^ 0 % 2 + kN ear) % 2) % 4))) (ty := .int) (C := RX6) (T := TX6) (N := 10) hx hb hts inX6_sendBit_X6 tyX6 tyX6_ok nmX6 hown hK hP hD hS 0 rfl rfl 9 (by decide) (hts (.fieldLink RX6 35 "ScrambledLine$Sender" "levelAt" "I") (by decide +kernel)) (fun _ h9 => h9) rfl (by decide +kernel) rfl rfl (Nat.le_of_ble_eq_true rfl) dX6_sendBit_60 (fun H locs hP hD hS => ?_)
    have hP : va_P D vwCl [(h0, .inr (6, [.ref ob, .ref sc, .ref gr, .int gc, .int gn, .int (nI 0), .int (nI idl), .int (nI g), .int (nI 0), .int (nI ((la + (g / 2 ^ 0 % 2 + kN ear) % 2) % 4))])), (sc, .inr (5, [.int (nI (rN ear (kN ear)))]))] H := hP
    have hD : va_D A [(h0, .inr (6, [.ref ob, .ref sc, .ref gr, .int gc, .int gn, .int (nI 0), .int (nI idl), .int (nI g), .int (nI 0), .int (nI ((la + (g / 2 ^ 0 % 2 + kN ear) % 2) % 4))])), (sc, .inr (5, [.int (nI (rN ear (kN ear)))]))] := hD
    refine lv_aload_n hx hb dX6_sendBit_63 rfl (lv_at hl 2 rfl) ?_
    refine va_get (D := D) (ci := 6) (v := .int (nI 0)) (C := RX6) (T := TX6) (N := 10) hx hb hts inX6_sendBit_X6 hown hK hP 0 rfl rfl 8 (by decide) (hts (.fieldLink RX6 32 "ScrambledLine$Sender" "bitsLeft" "I") (by decide +kernel)) (fun _ h9 => h9) rfl dX6_sendBit_64 ?_
    refine lv_if_ne (tgt := 74) hx hb dX6_sendBit_67 (by decide) (fun c67 => ?_) (fun c67 => ?_)
    · skip
      have k67 : ¬ 0 = 0 := fun zq => c67 ((nI_eq (a := 0) (b := 0) (by omega) (by omega)).mpr zq)
      exact False.elim (by omega)
    · skip
      have k67 : 0 = 0 := (nI_eq (a := 0) (b := 0) (by omega) (by omega)).mp c67
      refine lv_aload_n hx hb dX6_sendBit_70 rfl (lv_at hl 2 rfl) ?_
      refine ca_v (wr := [(sc, .inr (5, [.int (nI (rN ear (kN ear)))]))]) (ru_V (As := []) (rest := []) ⟨hx, hb, hml, hown, hts⟩ (c_X6_noteGroupSent_idle l D cI cG tt H.size h0 ob sc gr gc gn idl (nI g) (nI 0) (nI ((la + (g / 2 ^ 0 % 2 + kN ear) % 2) % 4)) (by omega)) (cwV 0 hts gX6_sendBit_X6_noteGroupSent rfl rfl rfl (by decide +kernel) ⟨by rw [hR]; exact Nat.le_of_ble_eq_true rfl, by rw [hR]; exact Nat.le_of_ble_eq_true rfl⟩) hP hD hE hT hS hA [0] rfl (by decide) (va_recv hK hP (ci := 6) (q0 := 0) rfl rfl) rfl hl.1 rfl (Nat.le_of_ble_eq_true rfl) dX6_sendBit_71 ⟨by rw [hR]; exact Nat.le_of_ble_eq_true rfl, by rw [hR]; exact Nat.le_of_ble_eq_true rfl⟩) hP hD hS hA [0] [1] rfl rfl (by decide) (by decide) (fun u H locs hw hP hD hS => ?_)
      have hP : va_P D vwCl [(sc, .inr (5, [.int (nI (rN ear (kN ear)))])), (h0, .inr (6, [.ref ob, .ref sc, .ref gr, .int gc, .int gn, .int (nI 0), .int (nI (min (idl + 1) 6)), .int (nI g), .int (nI 0), .int (nI ((la + (g / 2 ^ 0 % 2 + kN ear) % 2) % 4))]))] H := hP
      have hD : va_D A [(sc, .inr (5, [.int (nI (rN ear (kN ear)))])), (h0, .inr (6, [.ref ob, .ref sc, .ref gr, .int gc, .int gn, .int (nI 0), .int (nI (min (idl + 1) 6)), .int (nI g), .int (nI 0), .int (nI ((la + (g / 2 ^ 0 % 2 + kN ear) % 2) % 4))]))] := hD
      refine W_q hQ ?_
      exact rt_v () hx hb hr hlocks dX6_sendBit_74 hS (hP.sub [1, 0] rfl) (hD.sub [1, 0] (by decide) rfl) trivial
  · skip
    have k4 : 1 = 0 := (nI_eq (a := 1) (b := 0) (by omega) (by omega)).mp c4
    exact False.elim (by omega)

set_option maxHeartbeats 4000000 in
set_option maxRecDepth 100000 in
theorem c_X6_sendBit_ein (l : Launch) (D : va_G) (cI cG : ClassId) (tt : Nat × Nat × Nat) (sz : Nat) (h0 : Nat) (ob : Nat) (sc : Nat) (gr : Nat) (gc : Nat) (gn : Nat) (idl : Int32) (g : Nat) (la : Nat) (ear : Nat) (hear : ear < 2048) (hla : la < 4) (hg : g < 32) (hc : gc ≤ 70) (hn : gn < 70) (hh : gn + 1 < gc) : Met l yX6_sendBit wsX6_sendBit ({ frames := 4, cells := 0, slots := 0, locals := 77 }) (PC D cI cG tt [.ref h0] [(h0, .inr (6, [.ref ob, .ref sc, .ref gr, .int (nI gc), .int (nI gn), .int (nI 1), .int idl, .int (nI g), .int (nI 1), .int (nI la)])), (sc, .inr (5, [.int (nI ear)]))] sz) (QV (fun (u : Unit) => True) (fun (u : Unit) => [(h0, .inr (6, [.ref ob, .ref sc, .ref gr, .int (nI gc), .int (nI (gn + 1)), .int (nI 1), .int idl, .int (nI g), .int (nI 0), .int (nI ((la + (g / 2 ^ 0 % 2 + kN ear) % 2) % 4))])), (sc, .inr (5, [.int (nI (rN ear (kN ear)))]))]) D (va_A [(h0, .inr (6, [.ref ob, .ref sc, .ref gr, .int (nI gc), .int (nI gn), .int (nI 1), .int idl, .int (nI g), .int (nI 1), .int (nI la)])), (sc, .inr (5, [.int (nI ear)]))] sz)) 0 0 (va_A [(h0, .inr (6, [.ref ob, .ref sc, .ref gr, .int (nI gc), .int (nI gn), .int (nI 1), .int idl, .int (nI g), .int (nI 1), .int (nI la)])), (sc, .inr (5, [.int (nI ear)]))] sz) := by
  refine ct_of (y := yX6_sendBit) (cc := cX6_sendBit) (maxL := 3) (ret := none) (Qf := QV (fun (u : Unit) => True) (fun (u : Unit) => [(h0, .inr (6, [.ref ob, .ref sc, .ref gr, .int (nI gc), .int (nI (gn + 1)), .int (nI 1), .int idl, .int (nI g), .int (nI 0), .int (nI ((la + (g / 2 ^ 0 % 2 + kN ear) % 2) % 4))])), (sc, .inr (5, [.int (nI (rN ear (kN ear)))]))]) D) (by decide) rfl ?_
  intro p e s m args below meth c A Q R H locs hR hQ hx hb hml hr hts hown hlocks hin hP hD hE hT hA hS
  have hK := hE.1
  have hl := lv_entry ([.ref h0]) (n := 3) (Nat.le_of_ble_eq_true rfl)
  rw [lg_entry_eq]
  generalize (lg_sl ([.ref h0]) ++ List.replicate (3 - (lg_sl ([.ref h0])).length) Slot.unset).toArray = ls at hl ⊢
  have hl : lv_has ls 3 [(0, .ref h0)] := hl
  have hk2 := kN_lt ear
  refine lv_aload_n hx hb dX6_sendBit_0 rfl (lv_at hl 0 rfl) ?_
  refine va_get (D := D) (ci := 6) (v := .int (nI 1)) (C := RX6) (T := TX6) (N := 10) hx hb hts inX6_sendBit_X6 hown hK hP 0 rfl rfl 8 (by decide) (hts (.fieldLink RX6 32 "ScrambledLine$Sender" "bitsLeft" "I") (by decide +kernel)) (fun _ h9 => h9) rfl dX6_sendBit_1 ?_
  refine lv_if_ne (tgt := 11) hx hb dX6_sendBit_4 (by decide) (fun c4 => ?_) (fun c4 => ?_)
  · skip
    have k4 : ¬ 1 = 0 := fun zq => c4 ((nI_eq (a := 1) (b := 0) (by omega) (by omega)).mpr zq)
    refine lv_aload_n hx hb dX6_sendBit_11 rfl (lv_at hl 0 rfl) ?_
    refine lv_dup hx hb dX6_sendBit_12 rfl ?_
    refine va_get (D := D) (ci := 6) (v := .int (nI 1)) (C := RX6) (T := TX6) (N := 10) hx hb hts inX6_sendBit_X6 hown hK hP 0 rfl rfl 8 (by decide) (hts (.fieldLink RX6 32 "ScrambledLine$Sender" "bitsLeft" "I") (by decide +kernel)) (fun _ h9 => h9) rfl dX6_sendBit_13 ?_
    refine lv_iconst (v := nI 1) hx hb dX6_sendBit_16 rfl ?_
    refine lv_isub hx hb dX6_sendBit_17 ?_
    refine lv_to (y := nI 0) (pk_sub (a := 1) (b := 1) (by omega)) ?_
    refine va_put (D := D) (ci := 6) (v := .int (nI 0)) (ty := .int) (C := RX6) (T := TX6) (N := 10) hx hb hts inX6_sendBit_X6 tyX6 tyX6_ok nmX6 hown hK hP hD hS 0 rfl rfl 8 (by decide) (hts (.fieldLink RX6 32 "ScrambledLine$Sender" "bitsLeft" "I") (by decide +kernel)) (fun _ h9 => h9) rfl (by decide +kernel) rfl rfl (Nat.le_of_ble_eq_true rfl) dX6_sendBit_18 (fun H locs hP hD hS => ?_)
    have hP : va_P D vwCl [(h0, .inr (6, [.ref ob, .ref sc, .ref gr, .int (nI gc), .int (nI gn), .int (nI 1), .int idl, .int (nI g), .int (nI 0), .int (nI la)])), (sc, .inr (5, [.int (nI ear)]))] H := hP
    have hD : va_D A [(h0, .inr (6, [.ref ob, .ref sc, .ref gr, .int (nI gc), .int (nI gn), .int (nI 1), .int idl, .int (nI g), .int (nI 0), .int (nI la)])), (sc, .inr (5, [.int (nI ear)]))] := hD
    refine lv_aload_n hx hb dX6_sendBit_21 rfl (lv_at hl 0 rfl) ?_
    refine va_get (D := D) (ci := 6) (v := .int (nI g)) (C := RX6) (T := TX6) (N := 10) hx hb hts inX6_sendBit_X6 hown hK hP 0 rfl rfl 7 (by decide) (hts (.fieldLink RX6 29 "ScrambledLine$Sender" "group" "I") (by decide +kernel)) (fun _ h9 => h9) rfl dX6_sendBit_22 ?_
    refine lv_aload_n hx hb dX6_sendBit_25 rfl (lv_at hl 0 rfl) ?_
    refine va_get (D := D) (ci := 6) (v := .int (nI 0)) (C := RX6) (T := TX6) (N := 10) hx hb hts inX6_sendBit_X6 hown hK hP 0 rfl rfl 8 (by decide) (hts (.fieldLink RX6 32 "ScrambledLine$Sender" "bitsLeft" "I") (by decide +kernel)) (fun _ h9 => h9) rfl dX6_sendBit_26 ?_
    refine lv_iushr (v := ((nI g).toUInt32 >>> ((nI 0).toUInt32 &&& Int32.toUInt32 31)).toInt32) hx hb dX6_sendBit_29 rfl ?_
    refine lv_iconst (v := nI 1) hx hb dX6_sendBit_30 rfl ?_
    refine lv_iand hx hb dX6_sendBit_31 ?_
    refine lv_to (y := nI (g / 2 ^ 0 % 2)) (sb_sh (by omega) (by omega)) ?_
    refine lv_istore_n (lv' := [(1, .int (nI (g / 2 ^ 0 % 2))), (0, .ref h0)]) hx hb dX6_sendBit_32 rfl hl (by decide) rfl (fun ls hl => ?_)
    refine lv_aload_n hx hb dX6_sendBit_33 rfl (lv_at hl 1 rfl) ?_
    refine va_get (D := D) (ci := 6) (v := .ref sc) (C := RX6) (T := TX6) (N := 10) hx hb hts inX6_sendBit_X6 hown hK hP 0 rfl rfl 1 (by decide) (hts (.fieldLink RX6 49 "ScrambledLine$Sender" "scrambler" "LScrambledLine$Scrambler;") (by decide +kernel)) (fun _ h9 => h9) rfl dX6_sendBit_34 ?_
    refine ca_i (wr := [(h0, .inr (6, [.ref ob, .ref sc, .ref gr, .int (nI gc), .int (nI gn), .int (nI 1), .int idl, .int (nI g), .int (nI 0), .int (nI la)]))]) (ru_V (As := []) (rest := []) ⟨hx, hb, hml, hown, hts⟩ (c_X5_key l D cI cG tt H.size sc ear (by omega)) (cwV 0 hts gX6_sendBit_X5_key rfl rfl rfl (by decide +kernel) ⟨by rw [hR]; exact Nat.le_of_ble_eq_true rfl, by rw [hR]; exact Nat.le_of_ble_eq_true rfl⟩) hP hD hE hT hS hA [1] rfl (by decide) (va_recv hK hP (ci := 5) (q0 := 1) rfl rfl) rfl hl.1 rfl (Nat.le_of_ble_eq_true rfl) dX6_sendBit_37 ⟨by rw [hR]; exact Nat.le_of_ble_eq_true rfl, by rw [hR]; exact Nat.le_of_ble_eq_true rfl⟩) hP hD hS hA [1] [0] rfl rfl (by decide) (by decide) (fun r37 u H locs hw hP hD hS => ?_)
    obtain rfl := hw
    have hP : va_P D vwCl [(h0, .inr (6, [.ref ob, .ref sc, .ref gr, .int (nI gc), .int (nI gn), .int (nI 1), .int idl, .int (nI g), .int (nI 0), .int (nI la)])), (sc, .inr (5, [.int (nI ear)]))] H := hP
    have hD : va_D A [(h0, .inr (6, [.ref ob, .ref sc, .ref gr, .int (nI gc), .int (nI gn), .int (nI 1), .int idl, .int (nI g), .int (nI 0), .int (nI la)])), (sc, .inr (5, [.int (nI ear)]))] := hD
    refine lv_istore_n (lv' := [(2, .int (nI (kN ear))), (1, .int (nI (g / 2 ^ 0 % 2))), (0, .ref h0)]) hx hb dX6_sendBit_40 rfl hl (by decide) rfl (fun ls hl => ?_)
    refine lv_aload_n hx hb dX6_sendBit_41 rfl (lv_at hl 2 rfl) ?_
    refine va_get (D := D) (ci := 6) (v := .ref sc) (C := RX6) (T := TX6) (N := 10) hx hb hts inX6_sendBit_X6 hown hK hP 0 rfl rfl 1 (by decide) (hts (.fieldLink RX6 49 "ScrambledLine$Sender" "scrambler" "LScrambledLine$Scrambler;") (by decide +kernel)) (fun _ h9 => h9) rfl dX6_sendBit_42 ?_
    refine lv_iload_n hx hb dX6_sendBit_45 rfl (lv_at hl 0 rfl) ?_
    refine ca_v (wr := [(h0, .inr (6, [.ref ob, .ref sc, .ref gr, .int (nI gc), .int (nI gn), .int (nI 1), .int idl, .int (nI g), .int (nI 0), .int (nI la)]))]) (ru_V (As := [.int (nI (kN ear))]) (rest := []) ⟨hx, hb, hml, hown, hts⟩ (c_X5_shiftIn l D cI cG tt H.size sc ear (kN ear) (by omega) (by omega)) (cwV 1 hts gX6_sendBit_X5_shiftIn rfl rfl rfl (by decide +kernel) ⟨by rw [hR]; exact Nat.le_of_ble_eq_true rfl, by rw [hR]; exact Nat.le_of_ble_eq_true rfl⟩) hP hD hE hT hS hA [1] rfl (by decide) (va_recv hK hP (ci := 5) (q0 := 1) rfl rfl) rfl hl.1 rfl (Nat.le_of_ble_eq_true rfl) dX6_sendBit_46 ⟨by rw [hR]; exact Nat.le_of_ble_eq_true rfl, by rw [hR]; exact Nat.le_of_ble_eq_true rfl⟩) hP hD hS hA [1] [0] rfl rfl (by decide) (by decide) (fun u H locs hw hP hD hS => ?_)
    have hP : va_P D vwCl [(h0, .inr (6, [.ref ob, .ref sc, .ref gr, .int (nI gc), .int (nI gn), .int (nI 1), .int idl, .int (nI g), .int (nI 0), .int (nI la)])), (sc, .inr (5, [.int (nI (rN ear (kN ear)))]))] H := hP
    have hD : va_D A [(h0, .inr (6, [.ref ob, .ref sc, .ref gr, .int (nI gc), .int (nI gn), .int (nI 1), .int idl, .int (nI g), .int (nI 0), .int (nI la)])), (sc, .inr (5, [.int (nI (rN ear (kN ear)))]))] := hD
    refine lv_aload_n hx hb dX6_sendBit_49 rfl (lv_at hl 2 rfl) ?_
    refine lv_aload_n hx hb dX6_sendBit_50 rfl (lv_at hl 2 rfl) ?_
    refine va_get (D := D) (ci := 6) (v := .int (nI la)) (C := RX6) (T := TX6) (N := 10) hx hb hts inX6_sendBit_X6 hown hK hP 0 rfl rfl 9 (by decide) (hts (.fieldLink RX6 35 "ScrambledLine$Sender" "levelAt" "I") (by decide +kernel)) (fun _ h9 => h9) rfl dX6_sendBit_51 ?_
    refine lv_iload_n hx hb dX6_sendBit_54 rfl (lv_at hl 1 rfl) ?_
    refine lv_iload_n hx hb dX6_sendBit_55 rfl (lv_at hl 0 rfl) ?_
    refine lv_ixor hx hb dX6_sendBit_56 ?_
    refine lv_to (y := nI ((g / 2 ^ 0 % 2 + kN ear) % 2)) (xr (Nat.mod_lt _ (by decide)) hk2) ?_
    refine lv_iadd hx hb dX6_sendBit_57 ?_
    refine lv_to (y := nI (la + ((g / 2 ^ 0 % 2 + kN ear) % 2))) (nI_add la ((g / 2 ^ 0 % 2 + kN ear) % 2)) ?_
    refine lv_iconst (v := nI 4) hx hb dX6_sendBit_58 rfl ?_
    refine lv_irem hx hb dX6_sendBit_59 (by decide) ?_
    refine lv_to (y := nI ((la + (g / 2 ^ 0 % 2 + kN ear) % 2) % 4)) (pk_rem (by omega) (by decide) (by decide)) ?_
    refine va_put (D := D) (ci := 6) (v := .int (nI ((la + (g / 2 ^ 0 % 2 + kN ear) % 2) % 4))) (ty := .int) (C := RX6) (T := TX6) (N := 10) hx hb hts inX6_sendBit_X6 tyX6 tyX6_ok nmX6 hown hK hP hD hS 0 rfl rfl 9 (by decide) (hts (.fieldLink RX6 35 "ScrambledLine$Sender" "levelAt" "I") (by decide +kernel)) (fun _ h9 => h9) rfl (by decide +kernel) rfl rfl (Nat.le_of_ble_eq_true rfl) dX6_sendBit_60 (fun H locs hP hD hS => ?_)
    have hP : va_P D vwCl [(h0, .inr (6, [.ref ob, .ref sc, .ref gr, .int (nI gc), .int (nI gn), .int (nI 1), .int idl, .int (nI g), .int (nI 0), .int (nI ((la + (g / 2 ^ 0 % 2 + kN ear) % 2) % 4))])), (sc, .inr (5, [.int (nI (rN ear (kN ear)))]))] H := hP
    have hD : va_D A [(h0, .inr (6, [.ref ob, .ref sc, .ref gr, .int (nI gc), .int (nI gn), .int (nI 1), .int idl, .int (nI g), .int (nI 0), .int (nI ((la + (g / 2 ^ 0 % 2 + kN ear) % 2) % 4))])), (sc, .inr (5, [.int (nI (rN ear (kN ear)))]))] := hD
    refine lv_aload_n hx hb dX6_sendBit_63 rfl (lv_at hl 2 rfl) ?_
    refine va_get (D := D) (ci := 6) (v := .int (nI 0)) (C := RX6) (T := TX6) (N := 10) hx hb hts inX6_sendBit_X6 hown hK hP 0 rfl rfl 8 (by decide) (hts (.fieldLink RX6 32 "ScrambledLine$Sender" "bitsLeft" "I") (by decide +kernel)) (fun _ h9 => h9) rfl dX6_sendBit_64 ?_
    refine lv_if_ne (tgt := 74) hx hb dX6_sendBit_67 (by decide) (fun c67 => ?_) (fun c67 => ?_)
    · skip
      have k67 : ¬ 0 = 0 := fun zq => c67 ((nI_eq (a := 0) (b := 0) (by omega) (by omega)).mpr zq)
      exact False.elim (by omega)
    · skip
      have k67 : 0 = 0 := (nI_eq (a := 0) (b := 0) (by omega) (by omega)).mp c67
      refine lv_aload_n hx hb dX6_sendBit_70 rfl (lv_at hl 2 rfl) ?_
      refine ca_v (wr := [(sc, .inr (5, [.int (nI (rN ear (kN ear)))]))]) (ru_V (As := []) (rest := []) ⟨hx, hb, hml, hown, hts⟩ (c_X6_noteGroupSent_in l D cI cG tt H.size h0 ob sc gr gc gn idl (nI g) (nI 0) (nI ((la + (g / 2 ^ 0 % 2 + kN ear) % 2) % 4)) (by omega) (by omega) (by omega)) (cwV 0 hts gX6_sendBit_X6_noteGroupSent rfl rfl rfl (by decide +kernel) ⟨by rw [hR]; exact Nat.le_of_ble_eq_true rfl, by rw [hR]; exact Nat.le_of_ble_eq_true rfl⟩) hP hD hE hT hS hA [0] rfl (by decide) (va_recv hK hP (ci := 6) (q0 := 0) rfl rfl) rfl hl.1 rfl (Nat.le_of_ble_eq_true rfl) dX6_sendBit_71 ⟨by rw [hR]; exact Nat.le_of_ble_eq_true rfl, by rw [hR]; exact Nat.le_of_ble_eq_true rfl⟩) hP hD hS hA [0] [1] rfl rfl (by decide) (by decide) (fun u H locs hw hP hD hS => ?_)
      have hP : va_P D vwCl [(sc, .inr (5, [.int (nI (rN ear (kN ear)))])), (h0, .inr (6, [.ref ob, .ref sc, .ref gr, .int (nI gc), .int (nI (gn + 1)), .int (nI 1), .int idl, .int (nI g), .int (nI 0), .int (nI ((la + (g / 2 ^ 0 % 2 + kN ear) % 2) % 4))]))] H := hP
      have hD : va_D A [(sc, .inr (5, [.int (nI (rN ear (kN ear)))])), (h0, .inr (6, [.ref ob, .ref sc, .ref gr, .int (nI gc), .int (nI (gn + 1)), .int (nI 1), .int idl, .int (nI g), .int (nI 0), .int (nI ((la + (g / 2 ^ 0 % 2 + kN ear) % 2) % 4))]))] := hD
      refine W_q hQ ?_
      exact rt_v () hx hb hr hlocks dX6_sendBit_74 hS (hP.sub [1, 0] rfl) (hD.sub [1, 0] (by decide) rfl) trivial
  · skip
    have k4 : 1 = 0 := (nI_eq (a := 1) (b := 0) (by omega) (by omega)).mp c4
    exact False.elim (by omega)

set_option maxHeartbeats 4000000 in
set_option maxRecDepth 100000 in
theorem c_X6_sendBit_elast (l : Launch) (D : va_G) (cI cG : ClassId) (tt : Nat × Nat × Nat) (sz : Nat) (h0 : Nat) (ob : Nat) (sc : Nat) (gr : Nat) (gc : Nat) (gn : Nat) (idl : Int32) (g : Nat) (la : Nat) (ear : Nat) (hear : ear < 2048) (hla : la < 4) (hg : g < 32) (hc : gc ≤ 70) (hn : gn < 70) (hh : ¬ gn + 1 < gc) : Met l yX6_sendBit wsX6_sendBit ({ frames := 4, cells := 0, slots := 0, locals := 77 }) (PC D cI cG tt [.ref h0] [(h0, .inr (6, [.ref ob, .ref sc, .ref gr, .int (nI gc), .int (nI gn), .int (nI 1), .int idl, .int (nI g), .int (nI 1), .int (nI la)])), (sc, .inr (5, [.int (nI ear)]))] sz) (QV (fun (u : Unit) => True) (fun (u : Unit) => [(h0, .inr (6, [.ref ob, .ref sc, .ref gr, .int (nI gc), .int (nI (gn + 1)), .int (nI 0), .int (nI 0), .int (nI g), .int (nI 0), .int (nI ((la + (g / 2 ^ 0 % 2 + kN ear) % 2) % 4))])), (sc, .inr (5, [.int (nI (rN ear (kN ear)))]))]) D (va_A [(h0, .inr (6, [.ref ob, .ref sc, .ref gr, .int (nI gc), .int (nI gn), .int (nI 1), .int idl, .int (nI g), .int (nI 1), .int (nI la)])), (sc, .inr (5, [.int (nI ear)]))] sz)) 0 0 (va_A [(h0, .inr (6, [.ref ob, .ref sc, .ref gr, .int (nI gc), .int (nI gn), .int (nI 1), .int idl, .int (nI g), .int (nI 1), .int (nI la)])), (sc, .inr (5, [.int (nI ear)]))] sz) := by
  refine ct_of (y := yX6_sendBit) (cc := cX6_sendBit) (maxL := 3) (ret := none) (Qf := QV (fun (u : Unit) => True) (fun (u : Unit) => [(h0, .inr (6, [.ref ob, .ref sc, .ref gr, .int (nI gc), .int (nI (gn + 1)), .int (nI 0), .int (nI 0), .int (nI g), .int (nI 0), .int (nI ((la + (g / 2 ^ 0 % 2 + kN ear) % 2) % 4))])), (sc, .inr (5, [.int (nI (rN ear (kN ear)))]))]) D) (by decide) rfl ?_
  intro p e s m args below meth c A Q R H locs hR hQ hx hb hml hr hts hown hlocks hin hP hD hE hT hA hS
  have hK := hE.1
  have hl := lv_entry ([.ref h0]) (n := 3) (Nat.le_of_ble_eq_true rfl)
  rw [lg_entry_eq]
  generalize (lg_sl ([.ref h0]) ++ List.replicate (3 - (lg_sl ([.ref h0])).length) Slot.unset).toArray = ls at hl ⊢
  have hl : lv_has ls 3 [(0, .ref h0)] := hl
  have hk2 := kN_lt ear
  refine lv_aload_n hx hb dX6_sendBit_0 rfl (lv_at hl 0 rfl) ?_
  refine va_get (D := D) (ci := 6) (v := .int (nI 1)) (C := RX6) (T := TX6) (N := 10) hx hb hts inX6_sendBit_X6 hown hK hP 0 rfl rfl 8 (by decide) (hts (.fieldLink RX6 32 "ScrambledLine$Sender" "bitsLeft" "I") (by decide +kernel)) (fun _ h9 => h9) rfl dX6_sendBit_1 ?_
  refine lv_if_ne (tgt := 11) hx hb dX6_sendBit_4 (by decide) (fun c4 => ?_) (fun c4 => ?_)
  · skip
    have k4 : ¬ 1 = 0 := fun zq => c4 ((nI_eq (a := 1) (b := 0) (by omega) (by omega)).mpr zq)
    refine lv_aload_n hx hb dX6_sendBit_11 rfl (lv_at hl 0 rfl) ?_
    refine lv_dup hx hb dX6_sendBit_12 rfl ?_
    refine va_get (D := D) (ci := 6) (v := .int (nI 1)) (C := RX6) (T := TX6) (N := 10) hx hb hts inX6_sendBit_X6 hown hK hP 0 rfl rfl 8 (by decide) (hts (.fieldLink RX6 32 "ScrambledLine$Sender" "bitsLeft" "I") (by decide +kernel)) (fun _ h9 => h9) rfl dX6_sendBit_13 ?_
    refine lv_iconst (v := nI 1) hx hb dX6_sendBit_16 rfl ?_
    refine lv_isub hx hb dX6_sendBit_17 ?_
    refine lv_to (y := nI 0) (pk_sub (a := 1) (b := 1) (by omega)) ?_
    refine va_put (D := D) (ci := 6) (v := .int (nI 0)) (ty := .int) (C := RX6) (T := TX6) (N := 10) hx hb hts inX6_sendBit_X6 tyX6 tyX6_ok nmX6 hown hK hP hD hS 0 rfl rfl 8 (by decide) (hts (.fieldLink RX6 32 "ScrambledLine$Sender" "bitsLeft" "I") (by decide +kernel)) (fun _ h9 => h9) rfl (by decide +kernel) rfl rfl (Nat.le_of_ble_eq_true rfl) dX6_sendBit_18 (fun H locs hP hD hS => ?_)
    have hP : va_P D vwCl [(h0, .inr (6, [.ref ob, .ref sc, .ref gr, .int (nI gc), .int (nI gn), .int (nI 1), .int idl, .int (nI g), .int (nI 0), .int (nI la)])), (sc, .inr (5, [.int (nI ear)]))] H := hP
    have hD : va_D A [(h0, .inr (6, [.ref ob, .ref sc, .ref gr, .int (nI gc), .int (nI gn), .int (nI 1), .int idl, .int (nI g), .int (nI 0), .int (nI la)])), (sc, .inr (5, [.int (nI ear)]))] := hD
    refine lv_aload_n hx hb dX6_sendBit_21 rfl (lv_at hl 0 rfl) ?_
    refine va_get (D := D) (ci := 6) (v := .int (nI g)) (C := RX6) (T := TX6) (N := 10) hx hb hts inX6_sendBit_X6 hown hK hP 0 rfl rfl 7 (by decide) (hts (.fieldLink RX6 29 "ScrambledLine$Sender" "group" "I") (by decide +kernel)) (fun _ h9 => h9) rfl dX6_sendBit_22 ?_
    refine lv_aload_n hx hb dX6_sendBit_25 rfl (lv_at hl 0 rfl) ?_
    refine va_get (D := D) (ci := 6) (v := .int (nI 0)) (C := RX6) (T := TX6) (N := 10) hx hb hts inX6_sendBit_X6 hown hK hP 0 rfl rfl 8 (by decide) (hts (.fieldLink RX6 32 "ScrambledLine$Sender" "bitsLeft" "I") (by decide +kernel)) (fun _ h9 => h9) rfl dX6_sendBit_26 ?_
    refine lv_iushr (v := ((nI g).toUInt32 >>> ((nI 0).toUInt32 &&& Int32.toUInt32 31)).toInt32) hx hb dX6_sendBit_29 rfl ?_
    refine lv_iconst (v := nI 1) hx hb dX6_sendBit_30 rfl ?_
    refine lv_iand hx hb dX6_sendBit_31 ?_
    refine lv_to (y := nI (g / 2 ^ 0 % 2)) (sb_sh (by omega) (by omega)) ?_
    refine lv_istore_n (lv' := [(1, .int (nI (g / 2 ^ 0 % 2))), (0, .ref h0)]) hx hb dX6_sendBit_32 rfl hl (by decide) rfl (fun ls hl => ?_)
    refine lv_aload_n hx hb dX6_sendBit_33 rfl (lv_at hl 1 rfl) ?_
    refine va_get (D := D) (ci := 6) (v := .ref sc) (C := RX6) (T := TX6) (N := 10) hx hb hts inX6_sendBit_X6 hown hK hP 0 rfl rfl 1 (by decide) (hts (.fieldLink RX6 49 "ScrambledLine$Sender" "scrambler" "LScrambledLine$Scrambler;") (by decide +kernel)) (fun _ h9 => h9) rfl dX6_sendBit_34 ?_
    refine ca_i (wr := [(h0, .inr (6, [.ref ob, .ref sc, .ref gr, .int (nI gc), .int (nI gn), .int (nI 1), .int idl, .int (nI g), .int (nI 0), .int (nI la)]))]) (ru_V (As := []) (rest := []) ⟨hx, hb, hml, hown, hts⟩ (c_X5_key l D cI cG tt H.size sc ear (by omega)) (cwV 0 hts gX6_sendBit_X5_key rfl rfl rfl (by decide +kernel) ⟨by rw [hR]; exact Nat.le_of_ble_eq_true rfl, by rw [hR]; exact Nat.le_of_ble_eq_true rfl⟩) hP hD hE hT hS hA [1] rfl (by decide) (va_recv hK hP (ci := 5) (q0 := 1) rfl rfl) rfl hl.1 rfl (Nat.le_of_ble_eq_true rfl) dX6_sendBit_37 ⟨by rw [hR]; exact Nat.le_of_ble_eq_true rfl, by rw [hR]; exact Nat.le_of_ble_eq_true rfl⟩) hP hD hS hA [1] [0] rfl rfl (by decide) (by decide) (fun r37 u H locs hw hP hD hS => ?_)
    obtain rfl := hw
    have hP : va_P D vwCl [(h0, .inr (6, [.ref ob, .ref sc, .ref gr, .int (nI gc), .int (nI gn), .int (nI 1), .int idl, .int (nI g), .int (nI 0), .int (nI la)])), (sc, .inr (5, [.int (nI ear)]))] H := hP
    have hD : va_D A [(h0, .inr (6, [.ref ob, .ref sc, .ref gr, .int (nI gc), .int (nI gn), .int (nI 1), .int idl, .int (nI g), .int (nI 0), .int (nI la)])), (sc, .inr (5, [.int (nI ear)]))] := hD
    refine lv_istore_n (lv' := [(2, .int (nI (kN ear))), (1, .int (nI (g / 2 ^ 0 % 2))), (0, .ref h0)]) hx hb dX6_sendBit_40 rfl hl (by decide) rfl (fun ls hl => ?_)
    refine lv_aload_n hx hb dX6_sendBit_41 rfl (lv_at hl 2 rfl) ?_
    refine va_get (D := D) (ci := 6) (v := .ref sc) (C := RX6) (T := TX6) (N := 10) hx hb hts inX6_sendBit_X6 hown hK hP 0 rfl rfl 1 (by decide) (hts (.fieldLink RX6 49 "ScrambledLine$Sender" "scrambler" "LScrambledLine$Scrambler;") (by decide +kernel)) (fun _ h9 => h9) rfl dX6_sendBit_42 ?_
    refine lv_iload_n hx hb dX6_sendBit_45 rfl (lv_at hl 0 rfl) ?_
    refine ca_v (wr := [(h0, .inr (6, [.ref ob, .ref sc, .ref gr, .int (nI gc), .int (nI gn), .int (nI 1), .int idl, .int (nI g), .int (nI 0), .int (nI la)]))]) (ru_V (As := [.int (nI (kN ear))]) (rest := []) ⟨hx, hb, hml, hown, hts⟩ (c_X5_shiftIn l D cI cG tt H.size sc ear (kN ear) (by omega) (by omega)) (cwV 1 hts gX6_sendBit_X5_shiftIn rfl rfl rfl (by decide +kernel) ⟨by rw [hR]; exact Nat.le_of_ble_eq_true rfl, by rw [hR]; exact Nat.le_of_ble_eq_true rfl⟩) hP hD hE hT hS hA [1] rfl (by decide) (va_recv hK hP (ci := 5) (q0 := 1) rfl rfl) rfl hl.1 rfl (Nat.le_of_ble_eq_true rfl) dX6_sendBit_46 ⟨by rw [hR]; exact Nat.le_of_ble_eq_true rfl, by rw [hR]; exact Nat.le_of_ble_eq_true rfl⟩) hP hD hS hA [1] [0] rfl rfl (by decide) (by decide) (fun u H locs hw hP hD hS => ?_)
    have hP : va_P D vwCl [(h0, .inr (6, [.ref ob, .ref sc, .ref gr, .int (nI gc), .int (nI gn), .int (nI 1), .int idl, .int (nI g), .int (nI 0), .int (nI la)])), (sc, .inr (5, [.int (nI (rN ear (kN ear)))]))] H := hP
    have hD : va_D A [(h0, .inr (6, [.ref ob, .ref sc, .ref gr, .int (nI gc), .int (nI gn), .int (nI 1), .int idl, .int (nI g), .int (nI 0), .int (nI la)])), (sc, .inr (5, [.int (nI (rN ear (kN ear)))]))] := hD
    refine lv_aload_n hx hb dX6_sendBit_49 rfl (lv_at hl 2 rfl) ?_
    refine lv_aload_n hx hb dX6_sendBit_50 rfl (lv_at hl 2 rfl) ?_
    refine va_get (D := D) (ci := 6) (v := .int (nI la)) (C := RX6) (T := TX6) (N := 10) hx hb hts inX6_sendBit_X6 hown hK hP 0 rfl rfl 9 (by decide) (hts (.fieldLink RX6 35 "ScrambledLine$Sender" "levelAt" "I") (by decide +kernel)) (fun _ h9 => h9) rfl dX6_sendBit_51 ?_
    refine lv_iload_n hx hb dX6_sendBit_54 rfl (lv_at hl 1 rfl) ?_
    refine lv_iload_n hx hb dX6_sendBit_55 rfl (lv_at hl 0 rfl) ?_
    refine lv_ixor hx hb dX6_sendBit_56 ?_
    refine lv_to (y := nI ((g / 2 ^ 0 % 2 + kN ear) % 2)) (xr (Nat.mod_lt _ (by decide)) hk2) ?_
    refine lv_iadd hx hb dX6_sendBit_57 ?_
    refine lv_to (y := nI (la + ((g / 2 ^ 0 % 2 + kN ear) % 2))) (nI_add la ((g / 2 ^ 0 % 2 + kN ear) % 2)) ?_
    refine lv_iconst (v := nI 4) hx hb dX6_sendBit_58 rfl ?_
    refine lv_irem hx hb dX6_sendBit_59 (by decide) ?_
    refine lv_to (y := nI ((la + (g / 2 ^ 0 % 2 + kN ear) % 2) % 4)) (pk_rem (by omega) (by decide) (by decide)) ?_
    refine va_put (D := D) (ci := 6) (v := .int (nI ((la + (g / 2 ^ 0 % 2 + kN ear) % 2) % 4))) (ty := .int) (C := RX6) (T := TX6) (N := 10) hx hb hts inX6_sendBit_X6 tyX6 tyX6_ok nmX6 hown hK hP hD hS 0 rfl rfl 9 (by decide) (hts (.fieldLink RX6 35 "ScrambledLine$Sender" "levelAt" "I") (by decide +kernel)) (fun _ h9 => h9) rfl (by decide +kernel) rfl rfl (Nat.le_of_ble_eq_true rfl) dX6_sendBit_60 (fun H locs hP hD hS => ?_)
    have hP : va_P D vwCl [(h0, .inr (6, [.ref ob, .ref sc, .ref gr, .int (nI gc), .int (nI gn), .int (nI 1), .int idl, .int (nI g), .int (nI 0), .int (nI ((la + (g / 2 ^ 0 % 2 + kN ear) % 2) % 4))])), (sc, .inr (5, [.int (nI (rN ear (kN ear)))]))] H := hP
    have hD : va_D A [(h0, .inr (6, [.ref ob, .ref sc, .ref gr, .int (nI gc), .int (nI gn), .int (nI 1), .int idl, .int (nI g), .int (nI 0), .int (nI ((la + (g / 2 ^ 0 % 2 + kN ear) % 2) % 4))])), (sc, .inr (5, [.int (nI (rN ear (kN ear)))]))] := hD
    refine lv_aload_n hx hb dX6_sendBit_63 rfl (lv_at hl 2 rfl) ?_
    refine va_get (D := D) (ci := 6) (v := .int (nI 0)) (C := RX6) (T := TX6) (N := 10) hx hb hts inX6_sendBit_X6 hown hK hP 0 rfl rfl 8 (by decide) (hts (.fieldLink RX6 32 "ScrambledLine$Sender" "bitsLeft" "I") (by decide +kernel)) (fun _ h9 => h9) rfl dX6_sendBit_64 ?_
    refine lv_if_ne (tgt := 74) hx hb dX6_sendBit_67 (by decide) (fun c67 => ?_) (fun c67 => ?_)
    · skip
      have k67 : ¬ 0 = 0 := fun zq => c67 ((nI_eq (a := 0) (b := 0) (by omega) (by omega)).mpr zq)
      exact False.elim (by omega)
    · skip
      have k67 : 0 = 0 := (nI_eq (a := 0) (b := 0) (by omega) (by omega)).mp c67
      refine lv_aload_n hx hb dX6_sendBit_70 rfl (lv_at hl 2 rfl) ?_
      refine ca_v (wr := [(sc, .inr (5, [.int (nI (rN ear (kN ear)))]))]) (ru_V (As := []) (rest := []) ⟨hx, hb, hml, hown, hts⟩ (c_X6_noteGroupSent_last l D cI cG tt H.size h0 ob sc gr gc gn idl (nI g) (nI 0) (nI ((la + (g / 2 ^ 0 % 2 + kN ear) % 2) % 4)) (by omega) (by omega) (by omega)) (cwV 0 hts gX6_sendBit_X6_noteGroupSent rfl rfl rfl (by decide +kernel) ⟨by rw [hR]; exact Nat.le_of_ble_eq_true rfl, by rw [hR]; exact Nat.le_of_ble_eq_true rfl⟩) hP hD hE hT hS hA [0] rfl (by decide) (va_recv hK hP (ci := 6) (q0 := 0) rfl rfl) rfl hl.1 rfl (Nat.le_of_ble_eq_true rfl) dX6_sendBit_71 ⟨by rw [hR]; exact Nat.le_of_ble_eq_true rfl, by rw [hR]; exact Nat.le_of_ble_eq_true rfl⟩) hP hD hS hA [0] [1] rfl rfl (by decide) (by decide) (fun u H locs hw hP hD hS => ?_)
      have hP : va_P D vwCl [(sc, .inr (5, [.int (nI (rN ear (kN ear)))])), (h0, .inr (6, [.ref ob, .ref sc, .ref gr, .int (nI gc), .int (nI (gn + 1)), .int (nI 0), .int (nI 0), .int (nI g), .int (nI 0), .int (nI ((la + (g / 2 ^ 0 % 2 + kN ear) % 2) % 4))]))] H := hP
      have hD : va_D A [(sc, .inr (5, [.int (nI (rN ear (kN ear)))])), (h0, .inr (6, [.ref ob, .ref sc, .ref gr, .int (nI gc), .int (nI (gn + 1)), .int (nI 0), .int (nI 0), .int (nI g), .int (nI 0), .int (nI ((la + (g / 2 ^ 0 % 2 + kN ear) % 2) % 4))]))] := hD
      refine W_q hQ ?_
      exact rt_v () hx hb hr hlocks dX6_sendBit_74 hS (hP.sub [1, 0] rfl) (hD.sub [1, 0] (by decide) rfl) trivial
  · skip
    have k4 : 1 = 0 := (nI_eq (a := 1) (b := 0) (by omega) (by omega)).mp c4
    exact False.elim (by omega)

set_option maxHeartbeats 4000000 in
set_option maxRecDepth 100000 in
theorem c_X6_sendBit_cidle (l : Launch) (D : va_G) (cI cG : ClassId) (tt : Nat × Nat × Nat) (sz : Nat) (h0 : Nat) (ob : Nat) (sc : Nat) (gr : Nat) (gc : Int32) (gn : Int32) (idl : Nat) (g : Int32) (la : Nat) (ear : Nat) (ga : Nat) (fa : Nat) (src : Nat) (gl : Nat) (ff : Nat) (fc : Nat) (hear : ear < 2048) (hla : la < 4) (hi : idl < 6 ∨ fc = 0) (hid : idl ≤ 6) (hfc : fc ≤ 4) : Met l yX6_sendBit wsX6_sendBit ({ frames := 4, cells := 0, slots := 0, locals := 77 }) (PC D cI cG tt [.ref h0] [(h0, .inr (6, [.ref ob, .ref sc, .ref gr, .int gc, .int gn, .int (nI 0), .int (nI idl), .int g, .int (nI 0), .int (nI la)])), (sc, .inr (5, [.int (nI ear)])), (ob, .inr (3, [.int (nI src), .ref ga, .int (nI gl), .ref fa, .int (nI ff), .int (nI fc)]))] sz) (QV (fun (u : Unit) => True) (fun (u : Unit) => [(h0, .inr (6, [.ref ob, .ref sc, .ref gr, .int gc, .int gn, .int (nI 0), .int (nI idl), .int (nI 31), .int (nI 4), .int (nI ((la + (31 / 2 ^ 4 % 2 + kN ear) % 2) % 4))])), (sc, .inr (5, [.int (nI (rN ear (kN ear)))])), (ob, .inr (3, [.int (nI src), .ref ga, .int (nI gl), .ref fa, .int (nI ff), .int (nI fc)]))]) D (va_A [(h0, .inr (6, [.ref ob, .ref sc, .ref gr, .int gc, .int gn, .int (nI 0), .int (nI idl), .int g, .int (nI 0), .int (nI la)])), (sc, .inr (5, [.int (nI ear)])), (ob, .inr (3, [.int (nI src), .ref ga, .int (nI gl), .ref fa, .int (nI ff), .int (nI fc)]))] sz)) 0 0 (va_A [(h0, .inr (6, [.ref ob, .ref sc, .ref gr, .int gc, .int gn, .int (nI 0), .int (nI idl), .int g, .int (nI 0), .int (nI la)])), (sc, .inr (5, [.int (nI ear)])), (ob, .inr (3, [.int (nI src), .ref ga, .int (nI gl), .ref fa, .int (nI ff), .int (nI fc)]))] sz) := by
  refine ct_of (y := yX6_sendBit) (cc := cX6_sendBit) (maxL := 3) (ret := none) (Qf := QV (fun (u : Unit) => True) (fun (u : Unit) => [(h0, .inr (6, [.ref ob, .ref sc, .ref gr, .int gc, .int gn, .int (nI 0), .int (nI idl), .int (nI 31), .int (nI 4), .int (nI ((la + (31 / 2 ^ 4 % 2 + kN ear) % 2) % 4))])), (sc, .inr (5, [.int (nI (rN ear (kN ear)))])), (ob, .inr (3, [.int (nI src), .ref ga, .int (nI gl), .ref fa, .int (nI ff), .int (nI fc)]))]) D) (by decide) rfl ?_
  intro p e s m args below meth c A Q R H locs hR hQ hx hb hml hr hts hown hlocks hin hP hD hE hT hA hS
  have hK := hE.1
  have hl := lv_entry ([.ref h0]) (n := 3) (Nat.le_of_ble_eq_true rfl)
  rw [lg_entry_eq]
  generalize (lg_sl ([.ref h0]) ++ List.replicate (3 - (lg_sl ([.ref h0])).length) Slot.unset).toArray = ls at hl ⊢
  have hl : lv_has ls 3 [(0, .ref h0)] := hl
  have hk2 := kN_lt ear
  refine lv_aload_n hx hb dX6_sendBit_0 rfl (lv_at hl 0 rfl) ?_
  refine va_get (D := D) (ci := 6) (v := .int (nI 0)) (C := RX6) (T := TX6) (N := 10) hx hb hts inX6_sendBit_X6 hown hK hP 0 rfl rfl 8 (by decide) (hts (.fieldLink RX6 32 "ScrambledLine$Sender" "bitsLeft" "I") (by decide +kernel)) (fun _ h9 => h9) rfl dX6_sendBit_1 ?_
  refine lv_if_ne (tgt := 11) hx hb dX6_sendBit_4 (by decide) (fun c4 => ?_) (fun c4 => ?_)
  · skip
    have k4 : ¬ 0 = 0 := fun zq => c4 ((nI_eq (a := 0) (b := 0) (by omega) (by omega)).mpr zq)
    exact False.elim (by omega)
  · skip
    have k4 : 0 = 0 := (nI_eq (a := 0) (b := 0) (by omega) (by omega)).mp c4
    refine lv_aload_n hx hb dX6_sendBit_7 rfl (lv_at hl 0 rfl) ?_
    refine ca_v (wr := [(sc, .inr (5, [.int (nI ear)]))]) (ru_V (As := []) (rest := []) ⟨hx, hb, hml, hown, hts⟩ (c_X6_chooseGroup_idle l D cI cG tt H.size h0 ob sc gr gc gn idl g (nI 0) (nI la) ga fa src gl ff fc (by omega) (by omega) (by omega)) (cwV 0 hts gX6_sendBit_X6_chooseGroup rfl rfl rfl (by decide +kernel) ⟨by rw [hR]; exact Nat.le_of_ble_eq_true rfl, by rw [hR]; exact Nat.le_of_ble_eq_true rfl⟩) hP hD hE hT hS hA [0, 2] rfl (by decide) (va_recv hK hP (ci := 6) (q0 := 0) rfl rfl) rfl hl.1 rfl (Nat.le_of_ble_eq_true rfl) dX6_sendBit_8 ⟨by rw [hR]; exact Nat.le_of_ble_eq_true rfl, by rw [hR]; exact Nat.le_of_ble_eq_true rfl⟩) hP hD hS hA [0, 2] [1] rfl rfl (by decide) (by decide) (fun u H locs hw hP hD hS => ?_)
    have hP : va_P D vwCl [(sc, .inr (5, [.int (nI ear)])), (h0, .inr (6, [.ref ob, .ref sc, .ref gr, .int gc, .int gn, .int (nI 0), .int (nI idl), .int (nI 31), .int (nI 5), .int (nI la)])), (ob, .inr (3, [.int (nI src), .ref ga, .int (nI gl), .ref fa, .int (nI ff), .int (nI fc)]))] H := hP
    have hD : va_D A [(sc, .inr (5, [.int (nI ear)])), (h0, .inr (6, [.ref ob, .ref sc, .ref gr, .int gc, .int gn, .int (nI 0), .int (nI idl), .int (nI 31), .int (nI 5), .int (nI la)])), (ob, .inr (3, [.int (nI src), .ref ga, .int (nI gl), .ref fa, .int (nI ff), .int (nI fc)]))] := hD
    refine lv_aload_n hx hb dX6_sendBit_11 rfl (lv_at hl 0 rfl) ?_
    refine lv_dup hx hb dX6_sendBit_12 rfl ?_
    refine va_get (D := D) (ci := 6) (v := .int (nI 5)) (C := RX6) (T := TX6) (N := 10) hx hb hts inX6_sendBit_X6 hown hK hP 1 rfl rfl 8 (by decide) (hts (.fieldLink RX6 32 "ScrambledLine$Sender" "bitsLeft" "I") (by decide +kernel)) (fun _ h9 => h9) rfl dX6_sendBit_13 ?_
    refine lv_iconst (v := nI 1) hx hb dX6_sendBit_16 rfl ?_
    refine lv_isub hx hb dX6_sendBit_17 ?_
    refine lv_to (y := nI 4) (pk_sub (a := 5) (b := 1) (by omega)) ?_
    refine va_put (D := D) (ci := 6) (v := .int (nI 4)) (ty := .int) (C := RX6) (T := TX6) (N := 10) hx hb hts inX6_sendBit_X6 tyX6 tyX6_ok nmX6 hown hK hP hD hS 1 rfl rfl 8 (by decide) (hts (.fieldLink RX6 32 "ScrambledLine$Sender" "bitsLeft" "I") (by decide +kernel)) (fun _ h9 => h9) rfl (by decide +kernel) rfl rfl (Nat.le_of_ble_eq_true rfl) dX6_sendBit_18 (fun H locs hP hD hS => ?_)
    have hP : va_P D vwCl [(sc, .inr (5, [.int (nI ear)])), (h0, .inr (6, [.ref ob, .ref sc, .ref gr, .int gc, .int gn, .int (nI 0), .int (nI idl), .int (nI 31), .int (nI 4), .int (nI la)])), (ob, .inr (3, [.int (nI src), .ref ga, .int (nI gl), .ref fa, .int (nI ff), .int (nI fc)]))] H := hP
    have hD : va_D A [(sc, .inr (5, [.int (nI ear)])), (h0, .inr (6, [.ref ob, .ref sc, .ref gr, .int gc, .int gn, .int (nI 0), .int (nI idl), .int (nI 31), .int (nI 4), .int (nI la)])), (ob, .inr (3, [.int (nI src), .ref ga, .int (nI gl), .ref fa, .int (nI ff), .int (nI fc)]))] := hD
    refine lv_aload_n hx hb dX6_sendBit_21 rfl (lv_at hl 0 rfl) ?_
    refine va_get (D := D) (ci := 6) (v := .int (nI 31)) (C := RX6) (T := TX6) (N := 10) hx hb hts inX6_sendBit_X6 hown hK hP 1 rfl rfl 7 (by decide) (hts (.fieldLink RX6 29 "ScrambledLine$Sender" "group" "I") (by decide +kernel)) (fun _ h9 => h9) rfl dX6_sendBit_22 ?_
    refine lv_aload_n hx hb dX6_sendBit_25 rfl (lv_at hl 0 rfl) ?_
    refine va_get (D := D) (ci := 6) (v := .int (nI 4)) (C := RX6) (T := TX6) (N := 10) hx hb hts inX6_sendBit_X6 hown hK hP 1 rfl rfl 8 (by decide) (hts (.fieldLink RX6 32 "ScrambledLine$Sender" "bitsLeft" "I") (by decide +kernel)) (fun _ h9 => h9) rfl dX6_sendBit_26 ?_
    refine lv_iushr (v := ((nI 31).toUInt32 >>> ((nI 4).toUInt32 &&& Int32.toUInt32 31)).toInt32) hx hb dX6_sendBit_29 rfl ?_
    refine lv_iconst (v := nI 1) hx hb dX6_sendBit_30 rfl ?_
    refine lv_iand hx hb dX6_sendBit_31 ?_
    refine lv_to (y := nI (31 / 2 ^ 4 % 2)) (sb_sh (by omega) (by omega)) ?_
    refine lv_istore_n (lv' := [(1, .int (nI (31 / 2 ^ 4 % 2))), (0, .ref h0)]) hx hb dX6_sendBit_32 rfl hl (by decide) rfl (fun ls hl => ?_)
    refine lv_aload_n hx hb dX6_sendBit_33 rfl (lv_at hl 1 rfl) ?_
    refine va_get (D := D) (ci := 6) (v := .ref sc) (C := RX6) (T := TX6) (N := 10) hx hb hts inX6_sendBit_X6 hown hK hP 1 rfl rfl 1 (by decide) (hts (.fieldLink RX6 49 "ScrambledLine$Sender" "scrambler" "LScrambledLine$Scrambler;") (by decide +kernel)) (fun _ h9 => h9) rfl dX6_sendBit_34 ?_
    refine ca_i (wr := [(h0, .inr (6, [.ref ob, .ref sc, .ref gr, .int gc, .int gn, .int (nI 0), .int (nI idl), .int (nI 31), .int (nI 4), .int (nI la)])), (ob, .inr (3, [.int (nI src), .ref ga, .int (nI gl), .ref fa, .int (nI ff), .int (nI fc)]))]) (ru_V (As := []) (rest := []) ⟨hx, hb, hml, hown, hts⟩ (c_X5_key l D cI cG tt H.size sc ear (by omega)) (cwV 0 hts gX6_sendBit_X5_key rfl rfl rfl (by decide +kernel) ⟨by rw [hR]; exact Nat.le_of_ble_eq_true rfl, by rw [hR]; exact Nat.le_of_ble_eq_true rfl⟩) hP hD hE hT hS hA [0] rfl (by decide) (va_recv hK hP (ci := 5) (q0 := 0) rfl rfl) rfl hl.1 rfl (Nat.le_of_ble_eq_true rfl) dX6_sendBit_37 ⟨by rw [hR]; exact Nat.le_of_ble_eq_true rfl, by rw [hR]; exact Nat.le_of_ble_eq_true rfl⟩) hP hD hS hA [0] [1, 2] rfl rfl (by decide) (by decide) (fun r37 u H locs hw hP hD hS => ?_)
    obtain rfl := hw
    have hP : va_P D vwCl [(h0, .inr (6, [.ref ob, .ref sc, .ref gr, .int gc, .int gn, .int (nI 0), .int (nI idl), .int (nI 31), .int (nI 4), .int (nI la)])), (ob, .inr (3, [.int (nI src), .ref ga, .int (nI gl), .ref fa, .int (nI ff), .int (nI fc)])), (sc, .inr (5, [.int (nI ear)]))] H := hP
    have hD : va_D A [(h0, .inr (6, [.ref ob, .ref sc, .ref gr, .int gc, .int gn, .int (nI 0), .int (nI idl), .int (nI 31), .int (nI 4), .int (nI la)])), (ob, .inr (3, [.int (nI src), .ref ga, .int (nI gl), .ref fa, .int (nI ff), .int (nI fc)])), (sc, .inr (5, [.int (nI ear)]))] := hD
    refine lv_istore_n (lv' := [(2, .int (nI (kN ear))), (1, .int (nI (31 / 2 ^ 4 % 2))), (0, .ref h0)]) hx hb dX6_sendBit_40 rfl hl (by decide) rfl (fun ls hl => ?_)
    refine lv_aload_n hx hb dX6_sendBit_41 rfl (lv_at hl 2 rfl) ?_
    refine va_get (D := D) (ci := 6) (v := .ref sc) (C := RX6) (T := TX6) (N := 10) hx hb hts inX6_sendBit_X6 hown hK hP 0 rfl rfl 1 (by decide) (hts (.fieldLink RX6 49 "ScrambledLine$Sender" "scrambler" "LScrambledLine$Scrambler;") (by decide +kernel)) (fun _ h9 => h9) rfl dX6_sendBit_42 ?_
    refine lv_iload_n hx hb dX6_sendBit_45 rfl (lv_at hl 0 rfl) ?_
    refine ca_v (wr := [(h0, .inr (6, [.ref ob, .ref sc, .ref gr, .int gc, .int gn, .int (nI 0), .int (nI idl), .int (nI 31), .int (nI 4), .int (nI la)])), (ob, .inr (3, [.int (nI src), .ref ga, .int (nI gl), .ref fa, .int (nI ff), .int (nI fc)]))]) (ru_V (As := [.int (nI (kN ear))]) (rest := []) ⟨hx, hb, hml, hown, hts⟩ (c_X5_shiftIn l D cI cG tt H.size sc ear (kN ear) (by omega) (by omega)) (cwV 1 hts gX6_sendBit_X5_shiftIn rfl rfl rfl (by decide +kernel) ⟨by rw [hR]; exact Nat.le_of_ble_eq_true rfl, by rw [hR]; exact Nat.le_of_ble_eq_true rfl⟩) hP hD hE hT hS hA [2] rfl (by decide) (va_recv hK hP (ci := 5) (q0 := 2) rfl rfl) rfl hl.1 rfl (Nat.le_of_ble_eq_true rfl) dX6_sendBit_46 ⟨by rw [hR]; exact Nat.le_of_ble_eq_true rfl, by rw [hR]; exact Nat.le_of_ble_eq_true rfl⟩) hP hD hS hA [2] [0, 1] rfl rfl (by decide) (by decide) (fun u H locs hw hP hD hS => ?_)
    have hP : va_P D vwCl [(h0, .inr (6, [.ref ob, .ref sc, .ref gr, .int gc, .int gn, .int (nI 0), .int (nI idl), .int (nI 31), .int (nI 4), .int (nI la)])), (ob, .inr (3, [.int (nI src), .ref ga, .int (nI gl), .ref fa, .int (nI ff), .int (nI fc)])), (sc, .inr (5, [.int (nI (rN ear (kN ear)))]))] H := hP
    have hD : va_D A [(h0, .inr (6, [.ref ob, .ref sc, .ref gr, .int gc, .int gn, .int (nI 0), .int (nI idl), .int (nI 31), .int (nI 4), .int (nI la)])), (ob, .inr (3, [.int (nI src), .ref ga, .int (nI gl), .ref fa, .int (nI ff), .int (nI fc)])), (sc, .inr (5, [.int (nI (rN ear (kN ear)))]))] := hD
    refine lv_aload_n hx hb dX6_sendBit_49 rfl (lv_at hl 2 rfl) ?_
    refine lv_aload_n hx hb dX6_sendBit_50 rfl (lv_at hl 2 rfl) ?_
    refine va_get (D := D) (ci := 6) (v := .int (nI la)) (C := RX6) (T := TX6) (N := 10) hx hb hts inX6_sendBit_X6 hown hK hP 0 rfl rfl 9 (by decide) (hts (.fieldLink RX6 35 "ScrambledLine$Sender" "levelAt" "I") (by decide +kernel)) (fun _ h9 => h9) rfl dX6_sendBit_51 ?_
    refine lv_iload_n hx hb dX6_sendBit_54 rfl (lv_at hl 1 rfl) ?_
    refine lv_iload_n hx hb dX6_sendBit_55 rfl (lv_at hl 0 rfl) ?_
    refine lv_ixor hx hb dX6_sendBit_56 ?_
    refine lv_to (y := nI ((31 / 2 ^ 4 % 2 + kN ear) % 2)) (xr (Nat.mod_lt _ (by decide)) hk2) ?_
    refine lv_iadd hx hb dX6_sendBit_57 ?_
    refine lv_to (y := nI (la + ((31 / 2 ^ 4 % 2 + kN ear) % 2))) (nI_add la ((31 / 2 ^ 4 % 2 + kN ear) % 2)) ?_
    refine lv_iconst (v := nI 4) hx hb dX6_sendBit_58 rfl ?_
    refine lv_irem hx hb dX6_sendBit_59 (by decide) ?_
    refine lv_to (y := nI ((la + (31 / 2 ^ 4 % 2 + kN ear) % 2) % 4)) (pk_rem (by omega) (by decide) (by decide)) ?_
    refine va_put (D := D) (ci := 6) (v := .int (nI ((la + (31 / 2 ^ 4 % 2 + kN ear) % 2) % 4))) (ty := .int) (C := RX6) (T := TX6) (N := 10) hx hb hts inX6_sendBit_X6 tyX6 tyX6_ok nmX6 hown hK hP hD hS 0 rfl rfl 9 (by decide) (hts (.fieldLink RX6 35 "ScrambledLine$Sender" "levelAt" "I") (by decide +kernel)) (fun _ h9 => h9) rfl (by decide +kernel) rfl rfl (Nat.le_of_ble_eq_true rfl) dX6_sendBit_60 (fun H locs hP hD hS => ?_)
    have hP : va_P D vwCl [(h0, .inr (6, [.ref ob, .ref sc, .ref gr, .int gc, .int gn, .int (nI 0), .int (nI idl), .int (nI 31), .int (nI 4), .int (nI ((la + (31 / 2 ^ 4 % 2 + kN ear) % 2) % 4))])), (ob, .inr (3, [.int (nI src), .ref ga, .int (nI gl), .ref fa, .int (nI ff), .int (nI fc)])), (sc, .inr (5, [.int (nI (rN ear (kN ear)))]))] H := hP
    have hD : va_D A [(h0, .inr (6, [.ref ob, .ref sc, .ref gr, .int gc, .int gn, .int (nI 0), .int (nI idl), .int (nI 31), .int (nI 4), .int (nI ((la + (31 / 2 ^ 4 % 2 + kN ear) % 2) % 4))])), (ob, .inr (3, [.int (nI src), .ref ga, .int (nI gl), .ref fa, .int (nI ff), .int (nI fc)])), (sc, .inr (5, [.int (nI (rN ear (kN ear)))]))] := hD
    refine lv_aload_n hx hb dX6_sendBit_63 rfl (lv_at hl 2 rfl) ?_
    refine va_get (D := D) (ci := 6) (v := .int (nI 4)) (C := RX6) (T := TX6) (N := 10) hx hb hts inX6_sendBit_X6 hown hK hP 0 rfl rfl 8 (by decide) (hts (.fieldLink RX6 32 "ScrambledLine$Sender" "bitsLeft" "I") (by decide +kernel)) (fun _ h9 => h9) rfl dX6_sendBit_64 ?_
    refine lv_if_ne (tgt := 74) hx hb dX6_sendBit_67 (by decide) (fun c67 => ?_) (fun c67 => ?_)
    · skip
      have k67 : ¬ 4 = 0 := fun zq => c67 ((nI_eq (a := 4) (b := 0) (by omega) (by omega)).mpr zq)
      refine W_q hQ ?_
      exact rt_v () hx hb hr hlocks dX6_sendBit_74 hS (hP.sub [0, 2, 1] rfl) (hD.sub [0, 2, 1] (by decide) rfl) trivial
    · skip
      have k67 : 4 = 0 := (nI_eq (a := 4) (b := 0) (by omega) (by omega)).mp c67
      exact False.elim (by omega)

set_option maxHeartbeats 4000000 in
set_option maxRecDepth 100000 in
theorem c_X6_sendBit_cnext (l : Launch) (D : va_G) (cI cG : ClassId) (tt : Nat × Nat × Nat) (sz : Nat) (h0 : Nat) (ob : Nat) (sc : Nat) (gr : Nat) (gc : Int32) (gn : Nat) (idl : Int32) (g : Int32) (la : Nat) (ear : Nat) (ga : Nat) (fa : Nat) (src : Nat) (gl : Nat) (ff : Nat) (fc : Nat) (gf : Nat → Int32) (w : Nat) (hear : ear < 2048) (hla : la < 4) (hk : gn < 70) (hw : gf gn = nI w) (hw2 : w < 32) : Met l yX6_sendBit wsX6_sendBit ({ frames := 4, cells := 0, slots := 0, locals := 77 }) (PC D cI cG tt [.ref h0] [(h0, .inr (6, [.ref ob, .ref sc, .ref gr, .int gc, .int (nI gn), .int (nI 1), .int idl, .int g, .int (nI 0), .int (nI la)])), (sc, .inr (5, [.int (nI ear)])), (ob, .inr (3, [.int (nI src), .ref ga, .int (nI gl), .ref fa, .int (nI ff), .int (nI fc)])), (gr, .inl (cI, 70, .inl gf))] sz) (QV (fun (u : Unit) => True) (fun (u : Unit) => [(h0, .inr (6, [.ref ob, .ref sc, .ref gr, .int gc, .int (nI gn), .int (nI 1), .int idl, .int (nI w), .int (nI 4), .int (nI ((la + (w / 2 ^ 4 % 2 + kN ear) % 2) % 4))])), (sc, .inr (5, [.int (nI (rN ear (kN ear)))])), (ob, .inr (3, [.int (nI src), .ref ga, .int (nI gl), .ref fa, .int (nI ff), .int (nI fc)])), (gr, .inl (cI, 70, .inl gf))]) D (va_A [(h0, .inr (6, [.ref ob, .ref sc, .ref gr, .int gc, .int (nI gn), .int (nI 1), .int idl, .int g, .int (nI 0), .int (nI la)])), (sc, .inr (5, [.int (nI ear)])), (ob, .inr (3, [.int (nI src), .ref ga, .int (nI gl), .ref fa, .int (nI ff), .int (nI fc)])), (gr, .inl (cI, 70, .inl gf))] sz)) 0 0 (va_A [(h0, .inr (6, [.ref ob, .ref sc, .ref gr, .int gc, .int (nI gn), .int (nI 1), .int idl, .int g, .int (nI 0), .int (nI la)])), (sc, .inr (5, [.int (nI ear)])), (ob, .inr (3, [.int (nI src), .ref ga, .int (nI gl), .ref fa, .int (nI ff), .int (nI fc)])), (gr, .inl (cI, 70, .inl gf))] sz) := by
  refine ct_of (y := yX6_sendBit) (cc := cX6_sendBit) (maxL := 3) (ret := none) (Qf := QV (fun (u : Unit) => True) (fun (u : Unit) => [(h0, .inr (6, [.ref ob, .ref sc, .ref gr, .int gc, .int (nI gn), .int (nI 1), .int idl, .int (nI w), .int (nI 4), .int (nI ((la + (w / 2 ^ 4 % 2 + kN ear) % 2) % 4))])), (sc, .inr (5, [.int (nI (rN ear (kN ear)))])), (ob, .inr (3, [.int (nI src), .ref ga, .int (nI gl), .ref fa, .int (nI ff), .int (nI fc)])), (gr, .inl (cI, 70, .inl gf))]) D) (by decide) rfl ?_
  intro p e s m args below meth c A Q R H locs hR hQ hx hb hml hr hts hown hlocks hin hP hD hE hT hA hS
  have hK := hE.1
  have hl := lv_entry ([.ref h0]) (n := 3) (Nat.le_of_ble_eq_true rfl)
  rw [lg_entry_eq]
  generalize (lg_sl ([.ref h0]) ++ List.replicate (3 - (lg_sl ([.ref h0])).length) Slot.unset).toArray = ls at hl ⊢
  have hl : lv_has ls 3 [(0, .ref h0)] := hl
  have hk2 := kN_lt ear
  refine lv_aload_n hx hb dX6_sendBit_0 rfl (lv_at hl 0 rfl) ?_
  refine va_get (D := D) (ci := 6) (v := .int (nI 0)) (C := RX6) (T := TX6) (N := 10) hx hb hts inX6_sendBit_X6 hown hK hP 0 rfl rfl 8 (by decide) (hts (.fieldLink RX6 32 "ScrambledLine$Sender" "bitsLeft" "I") (by decide +kernel)) (fun _ h9 => h9) rfl dX6_sendBit_1 ?_
  refine lv_if_ne (tgt := 11) hx hb dX6_sendBit_4 (by decide) (fun c4 => ?_) (fun c4 => ?_)
  · skip
    have k4 : ¬ 0 = 0 := fun zq => c4 ((nI_eq (a := 0) (b := 0) (by omega) (by omega)).mpr zq)
    exact False.elim (by omega)
  · skip
    have k4 : 0 = 0 := (nI_eq (a := 0) (b := 0) (by omega) (by omega)).mp c4
    refine lv_aload_n hx hb dX6_sendBit_7 rfl (lv_at hl 0 rfl) ?_
    refine ca_v (wr := [(sc, .inr (5, [.int (nI ear)]))]) (ru_V (As := []) (rest := []) ⟨hx, hb, hml, hown, hts⟩ (c_X6_chooseGroup_next l D cI cG tt H.size h0 ob sc gr gc gn idl g (nI 0) (nI la) ga fa src gl ff fc gf w (by omega) hw) (cwV 0 hts gX6_sendBit_X6_chooseGroup rfl rfl rfl (by decide +kernel) ⟨by rw [hR]; exact Nat.le_of_ble_eq_true rfl, by rw [hR]; exact Nat.le_of_ble_eq_true rfl⟩) hP hD hE hT hS hA [0, 2, 3] rfl (by decide) (va_recv hK hP (ci := 6) (q0 := 0) rfl rfl) rfl hl.1 rfl (Nat.le_of_ble_eq_true rfl) dX6_sendBit_8 ⟨by rw [hR]; exact Nat.le_of_ble_eq_true rfl, by rw [hR]; exact Nat.le_of_ble_eq_true rfl⟩) hP hD hS hA [0, 2, 3] [1] rfl rfl (by decide) (by decide) (fun u H locs hw hP hD hS => ?_)
    have hP : va_P D vwCl [(sc, .inr (5, [.int (nI ear)])), (h0, .inr (6, [.ref ob, .ref sc, .ref gr, .int gc, .int (nI gn), .int (nI 1), .int idl, .int (nI w), .int (nI 5), .int (nI la)])), (ob, .inr (3, [.int (nI src), .ref ga, .int (nI gl), .ref fa, .int (nI ff), .int (nI fc)])), (gr, .inl (cI, 70, .inl gf))] H := hP
    have hD : va_D A [(sc, .inr (5, [.int (nI ear)])), (h0, .inr (6, [.ref ob, .ref sc, .ref gr, .int gc, .int (nI gn), .int (nI 1), .int idl, .int (nI w), .int (nI 5), .int (nI la)])), (ob, .inr (3, [.int (nI src), .ref ga, .int (nI gl), .ref fa, .int (nI ff), .int (nI fc)])), (gr, .inl (cI, 70, .inl gf))] := hD
    refine lv_aload_n hx hb dX6_sendBit_11 rfl (lv_at hl 0 rfl) ?_
    refine lv_dup hx hb dX6_sendBit_12 rfl ?_
    refine va_get (D := D) (ci := 6) (v := .int (nI 5)) (C := RX6) (T := TX6) (N := 10) hx hb hts inX6_sendBit_X6 hown hK hP 1 rfl rfl 8 (by decide) (hts (.fieldLink RX6 32 "ScrambledLine$Sender" "bitsLeft" "I") (by decide +kernel)) (fun _ h9 => h9) rfl dX6_sendBit_13 ?_
    refine lv_iconst (v := nI 1) hx hb dX6_sendBit_16 rfl ?_
    refine lv_isub hx hb dX6_sendBit_17 ?_
    refine lv_to (y := nI 4) (pk_sub (a := 5) (b := 1) (by omega)) ?_
    refine va_put (D := D) (ci := 6) (v := .int (nI 4)) (ty := .int) (C := RX6) (T := TX6) (N := 10) hx hb hts inX6_sendBit_X6 tyX6 tyX6_ok nmX6 hown hK hP hD hS 1 rfl rfl 8 (by decide) (hts (.fieldLink RX6 32 "ScrambledLine$Sender" "bitsLeft" "I") (by decide +kernel)) (fun _ h9 => h9) rfl (by decide +kernel) rfl rfl (Nat.le_of_ble_eq_true rfl) dX6_sendBit_18 (fun H locs hP hD hS => ?_)
    have hP : va_P D vwCl [(sc, .inr (5, [.int (nI ear)])), (h0, .inr (6, [.ref ob, .ref sc, .ref gr, .int gc, .int (nI gn), .int (nI 1), .int idl, .int (nI w), .int (nI 4), .int (nI la)])), (ob, .inr (3, [.int (nI src), .ref ga, .int (nI gl), .ref fa, .int (nI ff), .int (nI fc)])), (gr, .inl (cI, 70, .inl gf))] H := hP
    have hD : va_D A [(sc, .inr (5, [.int (nI ear)])), (h0, .inr (6, [.ref ob, .ref sc, .ref gr, .int gc, .int (nI gn), .int (nI 1), .int idl, .int (nI w), .int (nI 4), .int (nI la)])), (ob, .inr (3, [.int (nI src), .ref ga, .int (nI gl), .ref fa, .int (nI ff), .int (nI fc)])), (gr, .inl (cI, 70, .inl gf))] := hD
    refine lv_aload_n hx hb dX6_sendBit_21 rfl (lv_at hl 0 rfl) ?_
    refine va_get (D := D) (ci := 6) (v := .int (nI w)) (C := RX6) (T := TX6) (N := 10) hx hb hts inX6_sendBit_X6 hown hK hP 1 rfl rfl 7 (by decide) (hts (.fieldLink RX6 29 "ScrambledLine$Sender" "group" "I") (by decide +kernel)) (fun _ h9 => h9) rfl dX6_sendBit_22 ?_
    refine lv_aload_n hx hb dX6_sendBit_25 rfl (lv_at hl 0 rfl) ?_
    refine va_get (D := D) (ci := 6) (v := .int (nI 4)) (C := RX6) (T := TX6) (N := 10) hx hb hts inX6_sendBit_X6 hown hK hP 1 rfl rfl 8 (by decide) (hts (.fieldLink RX6 32 "ScrambledLine$Sender" "bitsLeft" "I") (by decide +kernel)) (fun _ h9 => h9) rfl dX6_sendBit_26 ?_
    refine lv_iushr (v := ((nI w).toUInt32 >>> ((nI 4).toUInt32 &&& Int32.toUInt32 31)).toInt32) hx hb dX6_sendBit_29 rfl ?_
    refine lv_iconst (v := nI 1) hx hb dX6_sendBit_30 rfl ?_
    refine lv_iand hx hb dX6_sendBit_31 ?_
    refine lv_to (y := nI (w / 2 ^ 4 % 2)) (sb_sh (by omega) (by omega)) ?_
    refine lv_istore_n (lv' := [(1, .int (nI (w / 2 ^ 4 % 2))), (0, .ref h0)]) hx hb dX6_sendBit_32 rfl hl (by decide) rfl (fun ls hl => ?_)
    refine lv_aload_n hx hb dX6_sendBit_33 rfl (lv_at hl 1 rfl) ?_
    refine va_get (D := D) (ci := 6) (v := .ref sc) (C := RX6) (T := TX6) (N := 10) hx hb hts inX6_sendBit_X6 hown hK hP 1 rfl rfl 1 (by decide) (hts (.fieldLink RX6 49 "ScrambledLine$Sender" "scrambler" "LScrambledLine$Scrambler;") (by decide +kernel)) (fun _ h9 => h9) rfl dX6_sendBit_34 ?_
    refine ca_i (wr := [(h0, .inr (6, [.ref ob, .ref sc, .ref gr, .int gc, .int (nI gn), .int (nI 1), .int idl, .int (nI w), .int (nI 4), .int (nI la)])), (ob, .inr (3, [.int (nI src), .ref ga, .int (nI gl), .ref fa, .int (nI ff), .int (nI fc)])), (gr, .inl (cI, 70, .inl gf))]) (ru_V (As := []) (rest := []) ⟨hx, hb, hml, hown, hts⟩ (c_X5_key l D cI cG tt H.size sc ear (by omega)) (cwV 0 hts gX6_sendBit_X5_key rfl rfl rfl (by decide +kernel) ⟨by rw [hR]; exact Nat.le_of_ble_eq_true rfl, by rw [hR]; exact Nat.le_of_ble_eq_true rfl⟩) hP hD hE hT hS hA [0] rfl (by decide) (va_recv hK hP (ci := 5) (q0 := 0) rfl rfl) rfl hl.1 rfl (Nat.le_of_ble_eq_true rfl) dX6_sendBit_37 ⟨by rw [hR]; exact Nat.le_of_ble_eq_true rfl, by rw [hR]; exact Nat.le_of_ble_eq_true rfl⟩) hP hD hS hA [0] [1, 2, 3] rfl rfl (by decide) (by decide) (fun r37 u H locs hw hP hD hS => ?_)
    obtain rfl := hw
    have hP : va_P D vwCl [(h0, .inr (6, [.ref ob, .ref sc, .ref gr, .int gc, .int (nI gn), .int (nI 1), .int idl, .int (nI w), .int (nI 4), .int (nI la)])), (ob, .inr (3, [.int (nI src), .ref ga, .int (nI gl), .ref fa, .int (nI ff), .int (nI fc)])), (gr, .inl (cI, 70, .inl gf)), (sc, .inr (5, [.int (nI ear)]))] H := hP
    have hD : va_D A [(h0, .inr (6, [.ref ob, .ref sc, .ref gr, .int gc, .int (nI gn), .int (nI 1), .int idl, .int (nI w), .int (nI 4), .int (nI la)])), (ob, .inr (3, [.int (nI src), .ref ga, .int (nI gl), .ref fa, .int (nI ff), .int (nI fc)])), (gr, .inl (cI, 70, .inl gf)), (sc, .inr (5, [.int (nI ear)]))] := hD
    refine lv_istore_n (lv' := [(2, .int (nI (kN ear))), (1, .int (nI (w / 2 ^ 4 % 2))), (0, .ref h0)]) hx hb dX6_sendBit_40 rfl hl (by decide) rfl (fun ls hl => ?_)
    refine lv_aload_n hx hb dX6_sendBit_41 rfl (lv_at hl 2 rfl) ?_
    refine va_get (D := D) (ci := 6) (v := .ref sc) (C := RX6) (T := TX6) (N := 10) hx hb hts inX6_sendBit_X6 hown hK hP 0 rfl rfl 1 (by decide) (hts (.fieldLink RX6 49 "ScrambledLine$Sender" "scrambler" "LScrambledLine$Scrambler;") (by decide +kernel)) (fun _ h9 => h9) rfl dX6_sendBit_42 ?_
    refine lv_iload_n hx hb dX6_sendBit_45 rfl (lv_at hl 0 rfl) ?_
    refine ca_v (wr := [(h0, .inr (6, [.ref ob, .ref sc, .ref gr, .int gc, .int (nI gn), .int (nI 1), .int idl, .int (nI w), .int (nI 4), .int (nI la)])), (ob, .inr (3, [.int (nI src), .ref ga, .int (nI gl), .ref fa, .int (nI ff), .int (nI fc)])), (gr, .inl (cI, 70, .inl gf))]) (ru_V (As := [.int (nI (kN ear))]) (rest := []) ⟨hx, hb, hml, hown, hts⟩ (c_X5_shiftIn l D cI cG tt H.size sc ear (kN ear) (by omega) (by omega)) (cwV 1 hts gX6_sendBit_X5_shiftIn rfl rfl rfl (by decide +kernel) ⟨by rw [hR]; exact Nat.le_of_ble_eq_true rfl, by rw [hR]; exact Nat.le_of_ble_eq_true rfl⟩) hP hD hE hT hS hA [3] rfl (by decide) (va_recv hK hP (ci := 5) (q0 := 3) rfl rfl) rfl hl.1 rfl (Nat.le_of_ble_eq_true rfl) dX6_sendBit_46 ⟨by rw [hR]; exact Nat.le_of_ble_eq_true rfl, by rw [hR]; exact Nat.le_of_ble_eq_true rfl⟩) hP hD hS hA [3] [0, 1, 2] rfl rfl (by decide) (by decide) (fun u H locs hw hP hD hS => ?_)
    have hP : va_P D vwCl [(h0, .inr (6, [.ref ob, .ref sc, .ref gr, .int gc, .int (nI gn), .int (nI 1), .int idl, .int (nI w), .int (nI 4), .int (nI la)])), (ob, .inr (3, [.int (nI src), .ref ga, .int (nI gl), .ref fa, .int (nI ff), .int (nI fc)])), (gr, .inl (cI, 70, .inl gf)), (sc, .inr (5, [.int (nI (rN ear (kN ear)))]))] H := hP
    have hD : va_D A [(h0, .inr (6, [.ref ob, .ref sc, .ref gr, .int gc, .int (nI gn), .int (nI 1), .int idl, .int (nI w), .int (nI 4), .int (nI la)])), (ob, .inr (3, [.int (nI src), .ref ga, .int (nI gl), .ref fa, .int (nI ff), .int (nI fc)])), (gr, .inl (cI, 70, .inl gf)), (sc, .inr (5, [.int (nI (rN ear (kN ear)))]))] := hD
    refine lv_aload_n hx hb dX6_sendBit_49 rfl (lv_at hl 2 rfl) ?_
    refine lv_aload_n hx hb dX6_sendBit_50 rfl (lv_at hl 2 rfl) ?_
    refine va_get (D := D) (ci := 6) (v := .int (nI la)) (C := RX6) (T := TX6) (N := 10) hx hb hts inX6_sendBit_X6 hown hK hP 0 rfl rfl 9 (by decide) (hts (.fieldLink RX6 35 "ScrambledLine$Sender" "levelAt" "I") (by decide +kernel)) (fun _ h9 => h9) rfl dX6_sendBit_51 ?_
    refine lv_iload_n hx hb dX6_sendBit_54 rfl (lv_at hl 1 rfl) ?_
    refine lv_iload_n hx hb dX6_sendBit_55 rfl (lv_at hl 0 rfl) ?_
    refine lv_ixor hx hb dX6_sendBit_56 ?_
    refine lv_to (y := nI ((w / 2 ^ 4 % 2 + kN ear) % 2)) (xr (Nat.mod_lt _ (by decide)) hk2) ?_
    refine lv_iadd hx hb dX6_sendBit_57 ?_
    refine lv_to (y := nI (la + ((w / 2 ^ 4 % 2 + kN ear) % 2))) (nI_add la ((w / 2 ^ 4 % 2 + kN ear) % 2)) ?_
    refine lv_iconst (v := nI 4) hx hb dX6_sendBit_58 rfl ?_
    refine lv_irem hx hb dX6_sendBit_59 (by decide) ?_
    refine lv_to (y := nI ((la + (w / 2 ^ 4 % 2 + kN ear) % 2) % 4)) (pk_rem (by omega) (by decide) (by decide)) ?_
    refine va_put (D := D) (ci := 6) (v := .int (nI ((la + (w / 2 ^ 4 % 2 + kN ear) % 2) % 4))) (ty := .int) (C := RX6) (T := TX6) (N := 10) hx hb hts inX6_sendBit_X6 tyX6 tyX6_ok nmX6 hown hK hP hD hS 0 rfl rfl 9 (by decide) (hts (.fieldLink RX6 35 "ScrambledLine$Sender" "levelAt" "I") (by decide +kernel)) (fun _ h9 => h9) rfl (by decide +kernel) rfl rfl (Nat.le_of_ble_eq_true rfl) dX6_sendBit_60 (fun H locs hP hD hS => ?_)
    have hP : va_P D vwCl [(h0, .inr (6, [.ref ob, .ref sc, .ref gr, .int gc, .int (nI gn), .int (nI 1), .int idl, .int (nI w), .int (nI 4), .int (nI ((la + (w / 2 ^ 4 % 2 + kN ear) % 2) % 4))])), (ob, .inr (3, [.int (nI src), .ref ga, .int (nI gl), .ref fa, .int (nI ff), .int (nI fc)])), (gr, .inl (cI, 70, .inl gf)), (sc, .inr (5, [.int (nI (rN ear (kN ear)))]))] H := hP
    have hD : va_D A [(h0, .inr (6, [.ref ob, .ref sc, .ref gr, .int gc, .int (nI gn), .int (nI 1), .int idl, .int (nI w), .int (nI 4), .int (nI ((la + (w / 2 ^ 4 % 2 + kN ear) % 2) % 4))])), (ob, .inr (3, [.int (nI src), .ref ga, .int (nI gl), .ref fa, .int (nI ff), .int (nI fc)])), (gr, .inl (cI, 70, .inl gf)), (sc, .inr (5, [.int (nI (rN ear (kN ear)))]))] := hD
    refine lv_aload_n hx hb dX6_sendBit_63 rfl (lv_at hl 2 rfl) ?_
    refine va_get (D := D) (ci := 6) (v := .int (nI 4)) (C := RX6) (T := TX6) (N := 10) hx hb hts inX6_sendBit_X6 hown hK hP 0 rfl rfl 8 (by decide) (hts (.fieldLink RX6 32 "ScrambledLine$Sender" "bitsLeft" "I") (by decide +kernel)) (fun _ h9 => h9) rfl dX6_sendBit_64 ?_
    refine lv_if_ne (tgt := 74) hx hb dX6_sendBit_67 (by decide) (fun c67 => ?_) (fun c67 => ?_)
    · skip
      have k67 : ¬ 4 = 0 := fun zq => c67 ((nI_eq (a := 4) (b := 0) (by omega) (by omega)).mpr zq)
      refine W_q hQ ?_
      exact rt_v () hx hb hr hlocks dX6_sendBit_74 hS (hP.sub [0, 3, 1, 2] rfl) (hD.sub [0, 3, 1, 2] (by decide) rfl) trivial
    · skip
      have k67 : 4 = 0 := (nI_eq (a := 4) (b := 0) (by omega) (by omega)).mp c67
      exact False.elim (by omega)

set_option maxHeartbeats 4000000 in
set_option maxRecDepth 100000 in
theorem c_X6_sendBit_cframe (l : Launch) (D : va_G) (cI cG : ClassId) (tt : Nat × Nat × Nat) (sz : Nat) (h0 : Nat) (ob : Nat) (sc : Nat) (gr : Nat) (gc : Int32) (gn : Int32) (idl : Nat) (g : Int32) (la : Nat) (ear : Nat) (ga : Nat) (fa : Nat) (src : Nat) (gl : Nat) (ff : Nat) (fc : Nat) (r0 : Nat) (r1 : Nat) (r2 : Nat) (r3 : Nat) (Rw : Nat → Nat → Int32) (gf : Nat → Int32) (q : Nat → Nat) (hear : ear < 2048) (hla : la < 4) (hi : 6 ≤ idl) (hid : idl ≤ 6) (hf0 : 0 < fc) (hfc : fc ≤ 4) (hff : ff < 4) (hs : src < 256) (hQ0 : QRel src ff fc q Rw) (hW : QW fc q) : Met l yX6_sendBit wsX6_sendBit ({ frames := 4, cells := 0, slots := 0, locals := 77 }) (PC D cI cG tt [.ref h0] [(h0, .inr (6, [.ref ob, .ref sc, .ref gr, .int gc, .int gn, .int (nI 0), .int (nI idl), .int g, .int (nI 0), .int (nI la)])), (sc, .inr (5, [.int (nI ear)])), (ob, .inr (3, [.int (nI src), .ref ga, .int (nI gl), .ref fa, .int (nI ff), .int (nI fc)])), (fa, .inl (cG, 4, .inr (.inr (.inr (.inr (gq4 r0 r1 r2 r3)))))), (r0, .inl (cI, 31, .inl (Rw 0))), (r1, .inl (cI, 31, .inl (Rw 1))), (r2, .inl (cI, 31, .inl (Rw 2))), (r3, .inl (cI, 31, .inl (Rw 3))), (gr, .inl (cI, 70, .inl gf))] sz) (QV (fun (u : (Nat → Int32)) => match u with | gf2 => GR (qB src q 0) (fsz (q 1) + 4) gf2 (2 * (fsz (q 1) + 4) + 8)) (fun (u : (Nat → Int32)) => match u with | gf2 => [(h0, .inr (6, [.ref ob, .ref sc, .ref gr, .int (nI (2 * (fsz (q 1) + 4) + 8)), .int (nI 0), .int (nI 1), .int (nI idl), .int (nI 24), .int (nI 4), .int (nI ((la + (24 / 2 ^ 4 % 2 + kN ear) % 2) % 4))])), (sc, .inr (5, [.int (nI (rN ear (kN ear)))])), (ob, .inr (3, [.int (nI src), .ref ga, .int (nI gl), .ref fa, .int (nI ((ff + 1) % 4)), .int (nI (fc - 1))])), (fa, .inl (cG, 4, .inr (.inr (.inr (.inr (gq4 r0 r1 r2 r3)))))), (r0, .inl (cI, 31, .inl (Rw 0))), (r1, .inl (cI, 31, .inl (Rw 1))), (r2, .inl (cI, 31, .inl (Rw 2))), (r3, .inl (cI, 31, .inl (Rw 3))), (gr, .inl (cI, 70, .inl gf2))]) D (va_A [(h0, .inr (6, [.ref ob, .ref sc, .ref gr, .int gc, .int gn, .int (nI 0), .int (nI idl), .int g, .int (nI 0), .int (nI la)])), (sc, .inr (5, [.int (nI ear)])), (ob, .inr (3, [.int (nI src), .ref ga, .int (nI gl), .ref fa, .int (nI ff), .int (nI fc)])), (fa, .inl (cG, 4, .inr (.inr (.inr (.inr (gq4 r0 r1 r2 r3)))))), (r0, .inl (cI, 31, .inl (Rw 0))), (r1, .inl (cI, 31, .inl (Rw 1))), (r2, .inl (cI, 31, .inl (Rw 2))), (r3, .inl (cI, 31, .inl (Rw 3))), (gr, .inl (cI, 70, .inl gf))] sz)) 0 0 (va_A [(h0, .inr (6, [.ref ob, .ref sc, .ref gr, .int gc, .int gn, .int (nI 0), .int (nI idl), .int g, .int (nI 0), .int (nI la)])), (sc, .inr (5, [.int (nI ear)])), (ob, .inr (3, [.int (nI src), .ref ga, .int (nI gl), .ref fa, .int (nI ff), .int (nI fc)])), (fa, .inl (cG, 4, .inr (.inr (.inr (.inr (gq4 r0 r1 r2 r3)))))), (r0, .inl (cI, 31, .inl (Rw 0))), (r1, .inl (cI, 31, .inl (Rw 1))), (r2, .inl (cI, 31, .inl (Rw 2))), (r3, .inl (cI, 31, .inl (Rw 3))), (gr, .inl (cI, 70, .inl gf))] sz) := by
  refine ct_of (y := yX6_sendBit) (cc := cX6_sendBit) (maxL := 3) (ret := none) (Qf := QV (fun (u : (Nat → Int32)) => match u with | gf2 => GR (qB src q 0) (fsz (q 1) + 4) gf2 (2 * (fsz (q 1) + 4) + 8)) (fun (u : (Nat → Int32)) => match u with | gf2 => [(h0, .inr (6, [.ref ob, .ref sc, .ref gr, .int (nI (2 * (fsz (q 1) + 4) + 8)), .int (nI 0), .int (nI 1), .int (nI idl), .int (nI 24), .int (nI 4), .int (nI ((la + (24 / 2 ^ 4 % 2 + kN ear) % 2) % 4))])), (sc, .inr (5, [.int (nI (rN ear (kN ear)))])), (ob, .inr (3, [.int (nI src), .ref ga, .int (nI gl), .ref fa, .int (nI ((ff + 1) % 4)), .int (nI (fc - 1))])), (fa, .inl (cG, 4, .inr (.inr (.inr (.inr (gq4 r0 r1 r2 r3)))))), (r0, .inl (cI, 31, .inl (Rw 0))), (r1, .inl (cI, 31, .inl (Rw 1))), (r2, .inl (cI, 31, .inl (Rw 2))), (r3, .inl (cI, 31, .inl (Rw 3))), (gr, .inl (cI, 70, .inl gf2))]) D) (by decide) rfl ?_
  intro p e s m args below meth c A Q R H locs hR hQ hx hb hml hr hts hown hlocks hin hP hD hE hT hA hS
  have hK := hE.1
  have hl := lv_entry ([.ref h0]) (n := 3) (Nat.le_of_ble_eq_true rfl)
  rw [lg_entry_eq]
  generalize (lg_sl ([.ref h0]) ++ List.replicate (3 - (lg_sl ([.ref h0])).length) Slot.unset).toArray = ls at hl ⊢
  have hl : lv_has ls 3 [(0, .ref h0)] := hl
  have hk2 := kN_lt ear
  refine lv_aload_n hx hb dX6_sendBit_0 rfl (lv_at hl 0 rfl) ?_
  refine va_get (D := D) (ci := 6) (v := .int (nI 0)) (C := RX6) (T := TX6) (N := 10) hx hb hts inX6_sendBit_X6 hown hK hP 0 rfl rfl 8 (by decide) (hts (.fieldLink RX6 32 "ScrambledLine$Sender" "bitsLeft" "I") (by decide +kernel)) (fun _ h9 => h9) rfl dX6_sendBit_1 ?_
  refine lv_if_ne (tgt := 11) hx hb dX6_sendBit_4 (by decide) (fun c4 => ?_) (fun c4 => ?_)
  · skip
    have k4 : ¬ 0 = 0 := fun zq => c4 ((nI_eq (a := 0) (b := 0) (by omega) (by omega)).mpr zq)
    exact False.elim (by omega)
  · skip
    have k4 : 0 = 0 := (nI_eq (a := 0) (b := 0) (by omega) (by omega)).mp c4
    refine lv_aload_n hx hb dX6_sendBit_7 rfl (lv_at hl 0 rfl) ?_
    refine ca_v (wr := [(sc, .inr (5, [.int (nI ear)]))]) (ru_V (As := []) (rest := []) ⟨hx, hb, hml, hown, hts⟩ (c_X6_chooseGroup_frame l D cI cG tt H.size h0 ob sc gr gc gn idl g (nI 0) (nI la) ga fa src gl ff fc r0 r1 r2 r3 Rw gf q (by omega) (by omega) (by omega) (by omega) (by omega) (by omega) hQ0 hW) (cwV 0 hts gX6_sendBit_X6_chooseGroup rfl rfl rfl (by decide +kernel) ⟨by rw [hR]; exact Nat.le_of_ble_eq_true rfl, by rw [hR]; exact Nat.le_of_ble_eq_true rfl⟩) hP hD hE hT hS hA [0, 2, 3, 4, 5, 6, 7, 8] rfl (by decide) (va_recv hK hP (ci := 6) (q0 := 0) rfl rfl) rfl hl.1 rfl (Nat.le_of_ble_eq_true rfl) dX6_sendBit_8 ⟨by rw [hR]; exact Nat.le_of_ble_eq_true rfl, by rw [hR]; exact Nat.le_of_ble_eq_true rfl⟩) hP hD hS hA [0, 2, 3, 4, 5, 6, 7, 8] [1] rfl rfl (by decide) (by decide) (fun u H locs hw hP hD hS => ?_)
    obtain ⟨gf2_8, rfl⟩ : ∃ z, z = u := ⟨_, rfl⟩
    have hgr_8 := hw
    have hP : va_P D vwCl [(sc, .inr (5, [.int (nI ear)])), (h0, .inr (6, [.ref ob, .ref sc, .ref gr, .int (nI (2 * (fsz (q 1) + 4) + 8)), .int (nI 0), .int (nI 1), .int (nI idl), .int (nI 24), .int (nI 5), .int (nI la)])), (ob, .inr (3, [.int (nI src), .ref ga, .int (nI gl), .ref fa, .int (nI ((ff + 1) % 4)), .int (nI (fc - 1))])), (fa, .inl (cG, 4, .inr (.inr (.inr (.inr (gq4 r0 r1 r2 r3)))))), (r0, .inl (cI, 31, .inl (Rw 0))), (r1, .inl (cI, 31, .inl (Rw 1))), (r2, .inl (cI, 31, .inl (Rw 2))), (r3, .inl (cI, 31, .inl (Rw 3))), (gr, .inl (cI, 70, .inl gf2_8))] H := hP
    have hD : va_D A [(sc, .inr (5, [.int (nI ear)])), (h0, .inr (6, [.ref ob, .ref sc, .ref gr, .int (nI (2 * (fsz (q 1) + 4) + 8)), .int (nI 0), .int (nI 1), .int (nI idl), .int (nI 24), .int (nI 5), .int (nI la)])), (ob, .inr (3, [.int (nI src), .ref ga, .int (nI gl), .ref fa, .int (nI ((ff + 1) % 4)), .int (nI (fc - 1))])), (fa, .inl (cG, 4, .inr (.inr (.inr (.inr (gq4 r0 r1 r2 r3)))))), (r0, .inl (cI, 31, .inl (Rw 0))), (r1, .inl (cI, 31, .inl (Rw 1))), (r2, .inl (cI, 31, .inl (Rw 2))), (r3, .inl (cI, 31, .inl (Rw 3))), (gr, .inl (cI, 70, .inl gf2_8))] := hD
    refine lv_aload_n hx hb dX6_sendBit_11 rfl (lv_at hl 0 rfl) ?_
    refine lv_dup hx hb dX6_sendBit_12 rfl ?_
    refine va_get (D := D) (ci := 6) (v := .int (nI 5)) (C := RX6) (T := TX6) (N := 10) hx hb hts inX6_sendBit_X6 hown hK hP 1 rfl rfl 8 (by decide) (hts (.fieldLink RX6 32 "ScrambledLine$Sender" "bitsLeft" "I") (by decide +kernel)) (fun _ h9 => h9) rfl dX6_sendBit_13 ?_
    refine lv_iconst (v := nI 1) hx hb dX6_sendBit_16 rfl ?_
    refine lv_isub hx hb dX6_sendBit_17 ?_
    refine lv_to (y := nI 4) (pk_sub (a := 5) (b := 1) (by omega)) ?_
    refine va_put (D := D) (ci := 6) (v := .int (nI 4)) (ty := .int) (C := RX6) (T := TX6) (N := 10) hx hb hts inX6_sendBit_X6 tyX6 tyX6_ok nmX6 hown hK hP hD hS 1 rfl rfl 8 (by decide) (hts (.fieldLink RX6 32 "ScrambledLine$Sender" "bitsLeft" "I") (by decide +kernel)) (fun _ h9 => h9) rfl (by decide +kernel) rfl rfl (Nat.le_of_ble_eq_true rfl) dX6_sendBit_18 (fun H locs hP hD hS => ?_)
    have hP : va_P D vwCl [(sc, .inr (5, [.int (nI ear)])), (h0, .inr (6, [.ref ob, .ref sc, .ref gr, .int (nI (2 * (fsz (q 1) + 4) + 8)), .int (nI 0), .int (nI 1), .int (nI idl), .int (nI 24), .int (nI 4), .int (nI la)])), (ob, .inr (3, [.int (nI src), .ref ga, .int (nI gl), .ref fa, .int (nI ((ff + 1) % 4)), .int (nI (fc - 1))])), (fa, .inl (cG, 4, .inr (.inr (.inr (.inr (gq4 r0 r1 r2 r3)))))), (r0, .inl (cI, 31, .inl (Rw 0))), (r1, .inl (cI, 31, .inl (Rw 1))), (r2, .inl (cI, 31, .inl (Rw 2))), (r3, .inl (cI, 31, .inl (Rw 3))), (gr, .inl (cI, 70, .inl gf2_8))] H := hP
    have hD : va_D A [(sc, .inr (5, [.int (nI ear)])), (h0, .inr (6, [.ref ob, .ref sc, .ref gr, .int (nI (2 * (fsz (q 1) + 4) + 8)), .int (nI 0), .int (nI 1), .int (nI idl), .int (nI 24), .int (nI 4), .int (nI la)])), (ob, .inr (3, [.int (nI src), .ref ga, .int (nI gl), .ref fa, .int (nI ((ff + 1) % 4)), .int (nI (fc - 1))])), (fa, .inl (cG, 4, .inr (.inr (.inr (.inr (gq4 r0 r1 r2 r3)))))), (r0, .inl (cI, 31, .inl (Rw 0))), (r1, .inl (cI, 31, .inl (Rw 1))), (r2, .inl (cI, 31, .inl (Rw 2))), (r3, .inl (cI, 31, .inl (Rw 3))), (gr, .inl (cI, 70, .inl gf2_8))] := hD
    refine lv_aload_n hx hb dX6_sendBit_21 rfl (lv_at hl 0 rfl) ?_
    refine va_get (D := D) (ci := 6) (v := .int (nI 24)) (C := RX6) (T := TX6) (N := 10) hx hb hts inX6_sendBit_X6 hown hK hP 1 rfl rfl 7 (by decide) (hts (.fieldLink RX6 29 "ScrambledLine$Sender" "group" "I") (by decide +kernel)) (fun _ h9 => h9) rfl dX6_sendBit_22 ?_
    refine lv_aload_n hx hb dX6_sendBit_25 rfl (lv_at hl 0 rfl) ?_
    refine va_get (D := D) (ci := 6) (v := .int (nI 4)) (C := RX6) (T := TX6) (N := 10) hx hb hts inX6_sendBit_X6 hown hK hP 1 rfl rfl 8 (by decide) (hts (.fieldLink RX6 32 "ScrambledLine$Sender" "bitsLeft" "I") (by decide +kernel)) (fun _ h9 => h9) rfl dX6_sendBit_26 ?_
    refine lv_iushr (v := ((nI 24).toUInt32 >>> ((nI 4).toUInt32 &&& Int32.toUInt32 31)).toInt32) hx hb dX6_sendBit_29 rfl ?_
    refine lv_iconst (v := nI 1) hx hb dX6_sendBit_30 rfl ?_
    refine lv_iand hx hb dX6_sendBit_31 ?_
    refine lv_to (y := nI (24 / 2 ^ 4 % 2)) (sb_sh (by omega) (by omega)) ?_
    refine lv_istore_n (lv' := [(1, .int (nI (24 / 2 ^ 4 % 2))), (0, .ref h0)]) hx hb dX6_sendBit_32 rfl hl (by decide) rfl (fun ls hl => ?_)
    refine lv_aload_n hx hb dX6_sendBit_33 rfl (lv_at hl 1 rfl) ?_
    refine va_get (D := D) (ci := 6) (v := .ref sc) (C := RX6) (T := TX6) (N := 10) hx hb hts inX6_sendBit_X6 hown hK hP 1 rfl rfl 1 (by decide) (hts (.fieldLink RX6 49 "ScrambledLine$Sender" "scrambler" "LScrambledLine$Scrambler;") (by decide +kernel)) (fun _ h9 => h9) rfl dX6_sendBit_34 ?_
    refine ca_i (wr := [(h0, .inr (6, [.ref ob, .ref sc, .ref gr, .int (nI (2 * (fsz (q 1) + 4) + 8)), .int (nI 0), .int (nI 1), .int (nI idl), .int (nI 24), .int (nI 4), .int (nI la)])), (ob, .inr (3, [.int (nI src), .ref ga, .int (nI gl), .ref fa, .int (nI ((ff + 1) % 4)), .int (nI (fc - 1))])), (fa, .inl (cG, 4, .inr (.inr (.inr (.inr (gq4 r0 r1 r2 r3)))))), (r0, .inl (cI, 31, .inl (Rw 0))), (r1, .inl (cI, 31, .inl (Rw 1))), (r2, .inl (cI, 31, .inl (Rw 2))), (r3, .inl (cI, 31, .inl (Rw 3))), (gr, .inl (cI, 70, .inl gf2_8))]) (ru_V (As := []) (rest := []) ⟨hx, hb, hml, hown, hts⟩ (c_X5_key l D cI cG tt H.size sc ear (by omega)) (cwV 0 hts gX6_sendBit_X5_key rfl rfl rfl (by decide +kernel) ⟨by rw [hR]; exact Nat.le_of_ble_eq_true rfl, by rw [hR]; exact Nat.le_of_ble_eq_true rfl⟩) hP hD hE hT hS hA [0] rfl (by decide) (va_recv hK hP (ci := 5) (q0 := 0) rfl rfl) rfl hl.1 rfl (Nat.le_of_ble_eq_true rfl) dX6_sendBit_37 ⟨by rw [hR]; exact Nat.le_of_ble_eq_true rfl, by rw [hR]; exact Nat.le_of_ble_eq_true rfl⟩) hP hD hS hA [0] [1, 2, 3, 4, 5, 6, 7, 8] rfl rfl (by decide) (by decide) (fun r37 u H locs hw hP hD hS => ?_)
    obtain rfl := hw
    have hP : va_P D vwCl [(h0, .inr (6, [.ref ob, .ref sc, .ref gr, .int (nI (2 * (fsz (q 1) + 4) + 8)), .int (nI 0), .int (nI 1), .int (nI idl), .int (nI 24), .int (nI 4), .int (nI la)])), (ob, .inr (3, [.int (nI src), .ref ga, .int (nI gl), .ref fa, .int (nI ((ff + 1) % 4)), .int (nI (fc - 1))])), (fa, .inl (cG, 4, .inr (.inr (.inr (.inr (gq4 r0 r1 r2 r3)))))), (r0, .inl (cI, 31, .inl (Rw 0))), (r1, .inl (cI, 31, .inl (Rw 1))), (r2, .inl (cI, 31, .inl (Rw 2))), (r3, .inl (cI, 31, .inl (Rw 3))), (gr, .inl (cI, 70, .inl gf2_8)), (sc, .inr (5, [.int (nI ear)]))] H := hP
    have hD : va_D A [(h0, .inr (6, [.ref ob, .ref sc, .ref gr, .int (nI (2 * (fsz (q 1) + 4) + 8)), .int (nI 0), .int (nI 1), .int (nI idl), .int (nI 24), .int (nI 4), .int (nI la)])), (ob, .inr (3, [.int (nI src), .ref ga, .int (nI gl), .ref fa, .int (nI ((ff + 1) % 4)), .int (nI (fc - 1))])), (fa, .inl (cG, 4, .inr (.inr (.inr (.inr (gq4 r0 r1 r2 r3)))))), (r0, .inl (cI, 31, .inl (Rw 0))), (r1, .inl (cI, 31, .inl (Rw 1))), (r2, .inl (cI, 31, .inl (Rw 2))), (r3, .inl (cI, 31, .inl (Rw 3))), (gr, .inl (cI, 70, .inl gf2_8)), (sc, .inr (5, [.int (nI ear)]))] := hD
    refine lv_istore_n (lv' := [(2, .int (nI (kN ear))), (1, .int (nI (24 / 2 ^ 4 % 2))), (0, .ref h0)]) hx hb dX6_sendBit_40 rfl hl (by decide) rfl (fun ls hl => ?_)
    refine lv_aload_n hx hb dX6_sendBit_41 rfl (lv_at hl 2 rfl) ?_
    refine va_get (D := D) (ci := 6) (v := .ref sc) (C := RX6) (T := TX6) (N := 10) hx hb hts inX6_sendBit_X6 hown hK hP 0 rfl rfl 1 (by decide) (hts (.fieldLink RX6 49 "ScrambledLine$Sender" "scrambler" "LScrambledLine$Scrambler;") (by decide +kernel)) (fun _ h9 => h9) rfl dX6_sendBit_42 ?_
    refine lv_iload_n hx hb dX6_sendBit_45 rfl (lv_at hl 0 rfl) ?_
    refine ca_v (wr := [(h0, .inr (6, [.ref ob, .ref sc, .ref gr, .int (nI (2 * (fsz (q 1) + 4) + 8)), .int (nI 0), .int (nI 1), .int (nI idl), .int (nI 24), .int (nI 4), .int (nI la)])), (ob, .inr (3, [.int (nI src), .ref ga, .int (nI gl), .ref fa, .int (nI ((ff + 1) % 4)), .int (nI (fc - 1))])), (fa, .inl (cG, 4, .inr (.inr (.inr (.inr (gq4 r0 r1 r2 r3)))))), (r0, .inl (cI, 31, .inl (Rw 0))), (r1, .inl (cI, 31, .inl (Rw 1))), (r2, .inl (cI, 31, .inl (Rw 2))), (r3, .inl (cI, 31, .inl (Rw 3))), (gr, .inl (cI, 70, .inl gf2_8))]) (ru_V (As := [.int (nI (kN ear))]) (rest := []) ⟨hx, hb, hml, hown, hts⟩ (c_X5_shiftIn l D cI cG tt H.size sc ear (kN ear) (by omega) (by omega)) (cwV 1 hts gX6_sendBit_X5_shiftIn rfl rfl rfl (by decide +kernel) ⟨by rw [hR]; exact Nat.le_of_ble_eq_true rfl, by rw [hR]; exact Nat.le_of_ble_eq_true rfl⟩) hP hD hE hT hS hA [8] rfl (by decide) (va_recv hK hP (ci := 5) (q0 := 8) rfl rfl) rfl hl.1 rfl (Nat.le_of_ble_eq_true rfl) dX6_sendBit_46 ⟨by rw [hR]; exact Nat.le_of_ble_eq_true rfl, by rw [hR]; exact Nat.le_of_ble_eq_true rfl⟩) hP hD hS hA [8] [0, 1, 2, 3, 4, 5, 6, 7] rfl rfl (by decide) (by decide) (fun u H locs hw hP hD hS => ?_)
    have hP : va_P D vwCl [(h0, .inr (6, [.ref ob, .ref sc, .ref gr, .int (nI (2 * (fsz (q 1) + 4) + 8)), .int (nI 0), .int (nI 1), .int (nI idl), .int (nI 24), .int (nI 4), .int (nI la)])), (ob, .inr (3, [.int (nI src), .ref ga, .int (nI gl), .ref fa, .int (nI ((ff + 1) % 4)), .int (nI (fc - 1))])), (fa, .inl (cG, 4, .inr (.inr (.inr (.inr (gq4 r0 r1 r2 r3)))))), (r0, .inl (cI, 31, .inl (Rw 0))), (r1, .inl (cI, 31, .inl (Rw 1))), (r2, .inl (cI, 31, .inl (Rw 2))), (r3, .inl (cI, 31, .inl (Rw 3))), (gr, .inl (cI, 70, .inl gf2_8)), (sc, .inr (5, [.int (nI (rN ear (kN ear)))]))] H := hP
    have hD : va_D A [(h0, .inr (6, [.ref ob, .ref sc, .ref gr, .int (nI (2 * (fsz (q 1) + 4) + 8)), .int (nI 0), .int (nI 1), .int (nI idl), .int (nI 24), .int (nI 4), .int (nI la)])), (ob, .inr (3, [.int (nI src), .ref ga, .int (nI gl), .ref fa, .int (nI ((ff + 1) % 4)), .int (nI (fc - 1))])), (fa, .inl (cG, 4, .inr (.inr (.inr (.inr (gq4 r0 r1 r2 r3)))))), (r0, .inl (cI, 31, .inl (Rw 0))), (r1, .inl (cI, 31, .inl (Rw 1))), (r2, .inl (cI, 31, .inl (Rw 2))), (r3, .inl (cI, 31, .inl (Rw 3))), (gr, .inl (cI, 70, .inl gf2_8)), (sc, .inr (5, [.int (nI (rN ear (kN ear)))]))] := hD
    refine lv_aload_n hx hb dX6_sendBit_49 rfl (lv_at hl 2 rfl) ?_
    refine lv_aload_n hx hb dX6_sendBit_50 rfl (lv_at hl 2 rfl) ?_
    refine va_get (D := D) (ci := 6) (v := .int (nI la)) (C := RX6) (T := TX6) (N := 10) hx hb hts inX6_sendBit_X6 hown hK hP 0 rfl rfl 9 (by decide) (hts (.fieldLink RX6 35 "ScrambledLine$Sender" "levelAt" "I") (by decide +kernel)) (fun _ h9 => h9) rfl dX6_sendBit_51 ?_
    refine lv_iload_n hx hb dX6_sendBit_54 rfl (lv_at hl 1 rfl) ?_
    refine lv_iload_n hx hb dX6_sendBit_55 rfl (lv_at hl 0 rfl) ?_
    refine lv_ixor hx hb dX6_sendBit_56 ?_
    refine lv_to (y := nI ((24 / 2 ^ 4 % 2 + kN ear) % 2)) (xr (Nat.mod_lt _ (by decide)) hk2) ?_
    refine lv_iadd hx hb dX6_sendBit_57 ?_
    refine lv_to (y := nI (la + ((24 / 2 ^ 4 % 2 + kN ear) % 2))) (nI_add la ((24 / 2 ^ 4 % 2 + kN ear) % 2)) ?_
    refine lv_iconst (v := nI 4) hx hb dX6_sendBit_58 rfl ?_
    refine lv_irem hx hb dX6_sendBit_59 (by decide) ?_
    refine lv_to (y := nI ((la + (24 / 2 ^ 4 % 2 + kN ear) % 2) % 4)) (pk_rem (by omega) (by decide) (by decide)) ?_
    refine va_put (D := D) (ci := 6) (v := .int (nI ((la + (24 / 2 ^ 4 % 2 + kN ear) % 2) % 4))) (ty := .int) (C := RX6) (T := TX6) (N := 10) hx hb hts inX6_sendBit_X6 tyX6 tyX6_ok nmX6 hown hK hP hD hS 0 rfl rfl 9 (by decide) (hts (.fieldLink RX6 35 "ScrambledLine$Sender" "levelAt" "I") (by decide +kernel)) (fun _ h9 => h9) rfl (by decide +kernel) rfl rfl (Nat.le_of_ble_eq_true rfl) dX6_sendBit_60 (fun H locs hP hD hS => ?_)
    have hP : va_P D vwCl [(h0, .inr (6, [.ref ob, .ref sc, .ref gr, .int (nI (2 * (fsz (q 1) + 4) + 8)), .int (nI 0), .int (nI 1), .int (nI idl), .int (nI 24), .int (nI 4), .int (nI ((la + (24 / 2 ^ 4 % 2 + kN ear) % 2) % 4))])), (ob, .inr (3, [.int (nI src), .ref ga, .int (nI gl), .ref fa, .int (nI ((ff + 1) % 4)), .int (nI (fc - 1))])), (fa, .inl (cG, 4, .inr (.inr (.inr (.inr (gq4 r0 r1 r2 r3)))))), (r0, .inl (cI, 31, .inl (Rw 0))), (r1, .inl (cI, 31, .inl (Rw 1))), (r2, .inl (cI, 31, .inl (Rw 2))), (r3, .inl (cI, 31, .inl (Rw 3))), (gr, .inl (cI, 70, .inl gf2_8)), (sc, .inr (5, [.int (nI (rN ear (kN ear)))]))] H := hP
    have hD : va_D A [(h0, .inr (6, [.ref ob, .ref sc, .ref gr, .int (nI (2 * (fsz (q 1) + 4) + 8)), .int (nI 0), .int (nI 1), .int (nI idl), .int (nI 24), .int (nI 4), .int (nI ((la + (24 / 2 ^ 4 % 2 + kN ear) % 2) % 4))])), (ob, .inr (3, [.int (nI src), .ref ga, .int (nI gl), .ref fa, .int (nI ((ff + 1) % 4)), .int (nI (fc - 1))])), (fa, .inl (cG, 4, .inr (.inr (.inr (.inr (gq4 r0 r1 r2 r3)))))), (r0, .inl (cI, 31, .inl (Rw 0))), (r1, .inl (cI, 31, .inl (Rw 1))), (r2, .inl (cI, 31, .inl (Rw 2))), (r3, .inl (cI, 31, .inl (Rw 3))), (gr, .inl (cI, 70, .inl gf2_8)), (sc, .inr (5, [.int (nI (rN ear (kN ear)))]))] := hD
    refine lv_aload_n hx hb dX6_sendBit_63 rfl (lv_at hl 2 rfl) ?_
    refine va_get (D := D) (ci := 6) (v := .int (nI 4)) (C := RX6) (T := TX6) (N := 10) hx hb hts inX6_sendBit_X6 hown hK hP 0 rfl rfl 8 (by decide) (hts (.fieldLink RX6 32 "ScrambledLine$Sender" "bitsLeft" "I") (by decide +kernel)) (fun _ h9 => h9) rfl dX6_sendBit_64 ?_
    refine lv_if_ne (tgt := 74) hx hb dX6_sendBit_67 (by decide) (fun c67 => ?_) (fun c67 => ?_)
    · skip
      have k67 : ¬ 4 = 0 := fun zq => c67 ((nI_eq (a := 4) (b := 0) (by omega) (by omega)).mpr zq)
      refine W_q hQ ?_
      exact rt_v gf2_8 hx hb hr hlocks dX6_sendBit_74 hS (hP.sub [0, 8, 1, 2, 3, 4, 5, 6, 7] rfl) (hD.sub [0, 8, 1, 2, 3, 4, 5, 6, 7] (by decide) rfl) hgr_8
    · skip
      have k67 : 4 = 0 := (nI_eq (a := 4) (b := 0) (by omega) (by omega)).mp c67
      exact False.elim (by omega)
