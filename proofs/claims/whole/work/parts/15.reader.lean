theorem nbI_16 {n : Nat} (hn : n ≤ 16) (h : nbI n = (-1)) : n = 16 := by
  by_cases e : n = 16
  · exact e
  · exfalso
    unfold nbI at h
    rw [if_neg e] at h
    have h1 := nI_toInt (n := n) (by omega)
    rw [h, show (-1 : Int32).toInt = -1 by decide] at h1
    omega
theorem nbI_lt {n : Nat} (hn : n ≤ 16) (h : ¬ nbI n = (-1)) : n < 16 := by
  by_cases e : n = 16
  · exact absurd (if_pos e) h
  · omega
theorem nbI_n {n : Nat} (h : n < 16) : nbI n = nI n := if_neg (by omega)
theorem tkS_16 (st : Bool) : st = tkS 16 st := by cases st <;> rfl
theorem tk_keep {n nb : Nat} {st fa : Bool} {bf nf} (h : n < 16) (hs : st = true) (hB : RB bf (nb + 1) (updN nf nb n)) : st = tkS n st ∧ fa = tkF n st fa ∧ nb + 1 = tkB n st nb ∧ RB bf (nb + 1) (tkV n st nb nf) := by
  subst hs
  have e : ¬ n = 16 := by omega
  refine ⟨rfl, ?_, ?_, ?_⟩
  · unfold tkF; rw [if_neg e]; simp
  · unfold tkB; rw [if_neg e, if_pos rfl]
  · unfold tkV; rw [if_neg e, if_pos rfl]; exact hB
theorem tk_13 {n nb : Nat} {st fa : Bool} {bf nf} (hs : st = false) (h : n = 13) (hB : RB bf nb nf) : true = tkS n st ∧ fa = tkF n st fa ∧ nb = tkB n st nb ∧ RB bf nb (tkV n st nb nf) := by
  subst hs; subst h
  refine ⟨rfl, ?_, rfl, hB⟩
  unfold tkF; simp
theorem tk_fa {n nb : Nat} {st fa : Bool} {bf nf} (h : n < 16) (hs : st = false) (h1 : ¬ n = 13) (h2 : ¬ n = 5) (hB : RB bf nb nf) : st = tkS n st ∧ true = tkF n st fa ∧ nb = tkB n st nb ∧ RB bf nb (tkV n st nb nf) := by
  subst hs
  have e : ¬ n = 16 := by omega
  refine ⟨?_, ?_, ?_, ?_⟩
  · simp [tkS, h1]
  · simp [tkF, e, h1, h2]
  · simp [tkB]
  · have : tkV n false nb nf = nf := by simp [tkV]
    rw [this]; exact hB
theorem tk_5 {n nb : Nat} {st fa : Bool} {bf nf} (hs : st = false) (h2 : n = 5) (hB : RB bf nb nf) : st = tkS n st ∧ fa = tkF n st fa ∧ nb = tkB n st nb ∧ RB bf nb (tkV n st nb nf) := by
  subst hs; subst h2
  refine ⟨rfl, ?_, rfl, hB⟩
  simp [tkF]
theorem rcv_c {bf : Nat → Int32} {nf : Nat → Nat} {sz : Nat} (h : ∀ i, i < sz → bf i = nI (byt nf i) ∧ byt nf i < 256) : ckV bf (sz - 4) = rcv nf sz := by
  unfold rcv ckV
  rw [ck_congr (sz - 4) (fun i hi => (h i (by omega)).1)]
section JD
variable {tgt nb : Nat} {st fa : Bool} {nf : Nat → Nat}
theorem jd_1 (h : st = false) : nI 1 = nI (jdg tgt st fa nb nf) := by unfold jdg; rw [if_pos h]
theorem jd_2 (h : st = true) (h2 : fa = true) : nI 2 = nI (jdg tgt st fa nb nf) := by unfold jdg; rw [if_neg (by rw [h]; decide), if_pos h2]
theorem jd_3 (h : st = true) (h2 : fa = false) (h3 : ¬ nb % 2 = 0) : nI 3 = nI (jdg tgt st fa nb nf) := by unfold jdg; rw [if_neg (by rw [h]; decide), if_neg (by rw [h2]; decide), if_pos (by omega)]
theorem jd_4 (h : st = true) (h2 : fa = false) (h3 : nb % 2 = 0) (h4 : ¬ 13 ≤ nb / 2) : nI 4 = nI (jdg tgt st fa nb nf) := by unfold jdg; rw [if_neg (by rw [h]; decide), if_neg (by rw [h2]; decide), if_neg (by omega), if_pos (by omega)]
theorem jd_5 (h : st = true) (h2 : fa = false) (h3 : nb % 2 = 0) (h4 : 13 ≤ nb / 2) (h5 : ¬ ckOK nf (nb / 2) = true) : nI 5 = nI (jdg tgt st fa nb nf) := by unfold jdg; rw [if_neg (by rw [h]; decide), if_neg (by rw [h2]; decide), if_neg (by omega), if_neg (by omega), if_pos (by simpa using h5)]
theorem jd_6 (h : st = true) (h2 : fa = false) (h3 : nb % 2 = 0) (h4 : 13 ≤ nb / 2) (h5 : ckOK nf (nb / 2) = true) (h6 : 24 < byt nf 2 ∨ ¬ nb / 2 = fsz (byt nf 2) + 4) : nI 6 = nI (jdg tgt st fa nb nf) := by unfold jdg; rw [if_neg (by rw [h]; decide), if_neg (by rw [h2]; decide), if_neg (by omega), if_neg (by omega), if_neg (by rw [h5]; decide), if_pos h6]
theorem jd_7 (h : st = true) (h2 : fa = false) (h3 : nb % 2 = 0) (h4 : 13 ≤ nb / 2) (h5 : ckOK nf (nb / 2) = true) (h6 : ¬ 24 < byt nf 2) (h7 : nb / 2 = fsz (byt nf 2) + 4) (h8 : ¬ byt nf 0 = tgt) (h9 : ¬ byt nf 0 = 255) : nI 7 = nI (jdg tgt st fa nb nf) := by unfold jdg; rw [if_neg (by rw [h]; decide), if_neg (by rw [h2]; decide), if_neg (by omega), if_neg (by omega), if_neg (by rw [h5]; decide), if_neg (fun q => q.elim h6 (fun z => z h7)), if_pos ⟨h8, h9⟩]
theorem jd_0 (h : st = true) (h2 : fa = false) (h3 : nb % 2 = 0) (h4 : 13 ≤ nb / 2) (h5 : ckOK nf (nb / 2) = true) (h6 : ¬ 24 < byt nf 2) (h7 : nb / 2 = fsz (byt nf 2) + 4) (h8 : byt nf 0 = tgt ∨ byt nf 0 = 255) : nI 0 = nI (jdg tgt st fa nb nf) := by unfold jdg; rw [if_neg (by rw [h]; decide), if_neg (by rw [h2]; decide), if_neg (by omega), if_neg (by omega), if_neg (by rw [h5]; decide), if_neg (fun q => q.elim h6 (fun z => z h7)), if_neg (fun q => h8.elim q.1 q.2)]
variable {bt : Bool} {w : Nat} {bf : Nat → Int32}
theorem tg_r (h : bt = true) (hw : w = 7) (hB : RB bf nb nf) : nI (jdg tgt st fa nb nf) = tgR tgt w (st, fa, bt, nb, nf) ∧ (st, fa, bt, nb, nf) = tgS w (st, fa, bt, nb, nf) ∧ RB bf nb nf := by
  subst h; subst hw; exact ⟨rfl, rfl, hB⟩
theorem tg_9 (h : bt = true) (hw : ¬ w = 7) (hB : RB bf nb nf) : nI 9 = tgR tgt w (st, fa, bt, nb, nf) ∧ (st, fa, bt, nb, nf) = tgS w (st, fa, bt, nb, nf) ∧ RB bf nb nf := by
  subst h
  refine ⟨?_, rfl, hB⟩
  show nI 9 = if w = 7 then _ else _
  rw [if_neg hw]
theorem tg_31 (h : bt = false) (hw : w = 31) (hB : RB bf nb nf) : nI 8 = tgR tgt w (st, fa, bt, nb, nf) ∧ (st, fa, bt, nb, nf) = tgS w (st, fa, bt, nb, nf) ∧ RB bf nb nf := by
  subst h; subst hw; exact ⟨rfl, rfl, hB⟩
theorem tg_13 (h : bt = false) (h1 : ¬ w = 31) (hw : w = 13) (hB : RB bf nb nf) : -1 = tgR tgt w (st, fa, bt, nb, nf) ∧ (st, fa, true, nb, nf) = tgS w (st, fa, bt, nb, nf) ∧ RB bf nb nf := by
  subst h; subst hw; exact ⟨rfl, rfl, hB⟩
theorem tg_n {st2 fa2 : Bool} {nb2 : Nat} {bf2 : Nat → Int32} (h : bt = false) (h1 : ¬ w = 31) (h2 : ¬ w = 13) (e1 : st2 = tkS (nN w) st) (e2 : fa2 = tkF (nN w) st fa) (e3 : nb2 = tkB (nN w) st nb) (hB : RB bf2 nb2 (tkV (nN w) st nb nf)) : -1 = tgR tgt w (st, fa, bt, nb, nf) ∧ (st2, fa2, bt, nb2, tkV (nN w) st nb nf) = tgS w (st, fa, bt, nb, nf) ∧ RB bf2 nb2 (tkV (nN w) st nb nf) := by
  subst h; subst e1; subst e2; subst e3
  refine ⟨?_, ?_, hB⟩
  · show -1 = if w = 31 then _ else _
    rw [if_neg h1]
  · show _ = if w = 31 then _ else if w = 13 then _ else _
    rw [if_neg h1, if_neg h2]
end JD
theorem inX4_init_X4 : ∀ w ∈ u_ws RX4 TX4 8, w ∈ wsX4_init := by decide +kernel
set_option maxHeartbeats 4000000 in
set_option maxRecDepth 100000 in
theorem c_X4_init (l : Launch) (D : va_G) (cI cG : ClassId) (tt : Nat × Nat × Nat) (sz : Nat) (h0 : Nat) (tgt : Nat) : Met l yX4_init wsX4_init ({ frames := 1, cells := 1, slots := 40, locals := 12 }) (PC D cI cG tt [.ref h0, .int (nI tgt)] [(h0, .inr (4, [.int (nI 0), .null, .int (nI 0), .int (nI 0), .int (nI 0), .int (nI 0), .int (nI 0), .int (nI 0)]))] sz) (QV (fun (u : Nat) => match u with | q => True) (fun (u : Nat) => match u with | q => [(h0, .inr (4, [.int (nI tgt), .ref q, .int (nI 0), .int (nI 0), .int (nI 0), .int (nI 0), .int (nI 0), .int (nI 0)])), (q, .inl (cI, 40, .inl (fun _ => 0)))]) D (va_A [(h0, .inr (4, [.int (nI 0), .null, .int (nI 0), .int (nI 0), .int (nI 0), .int (nI 0), .int (nI 0), .int (nI 0)]))] sz)) 1 40 (va_A [(h0, .inr (4, [.int (nI 0), .null, .int (nI 0), .int (nI 0), .int (nI 0), .int (nI 0), .int (nI 0), .int (nI 0)]))] sz) := by
  refine ct_of (y := yX4_init) (cc := cX4_init) (maxL := 2) (ret := none) (Qf := QV (fun (u : Nat) => match u with | q => True) (fun (u : Nat) => match u with | q => [(h0, .inr (4, [.int (nI tgt), .ref q, .int (nI 0), .int (nI 0), .int (nI 0), .int (nI 0), .int (nI 0), .int (nI 0)])), (q, .inl (cI, 40, .inl (fun _ => 0)))]) D) (by decide) rfl ?_
  intro p e s m args below meth c A Q R H locs hR hQ hx hb hml hr hts hown hlocks hin hP hD hE hT hA hS
  have hK := hE.1
  have hl := lv_entry ([.ref h0, .int (nI tgt)]) (n := 2) (Nat.le_of_ble_eq_true rfl)
  rw [lg_entry_eq]
  generalize (lg_sl ([.ref h0, .int (nI tgt)]) ++ List.replicate (2 - (lg_sl ([.ref h0, .int (nI tgt)])).length) Slot.unset).toArray = ls at hl ⊢
  have hl : lv_has ls 2 [(0, .ref h0), (1, .int (nI tgt))] := hl
  refine lv_aload_n hx hb dX4_init_0 rfl (lv_at hl 0 rfl) ?_
  refine W.objInit hx hb hown (hts (.methodLink RX4 3 objectInit) (by decide +kernel)) (hts (.instanceMethod objectInit) (by decide +kernel)) (hts (.code objectInit ⟨#[0xb1]⟩ 1 none) (by decide +kernel)) rfl (by rw [hml]; exact hl.1) rfl dX4_init_1 (by rw [hR]; exact Nat.le_of_ble_eq_true rfl) (by rw [hR]; exact Nat.le_of_ble_eq_true rfl) ?_
  refine W.eq (g2 := F0 m 4 ls []) rfl ?_
  refine lv_aload_n hx hb dX4_init_4 rfl (lv_at hl 0 rfl) ?_
  refine lv_bipush (v := nI 40) hx hb dX4_init_5 rfl ?_
  refine nw_i (N := 40) hx hb (hts (.arrayClass .int) (by decide +kernel)) hK hP hD hS hA (by decide) (by decide) (by rw [hR]; exact Nat.le_of_ble_eq_true rfl) (by rw [hR]; exact Nat.le_of_ble_eq_true rfl) dX4_init_7 (fun q7 H hP hD hS => ?_)
  have hP : va_P D vwCl [(h0, .inr (4, [.int (nI 0), .null, .int (nI 0), .int (nI 0), .int (nI 0), .int (nI 0), .int (nI 0), .int (nI 0)])), (q7, .inl (cI, 40, .inl (fun _ => 0)))] H := hP
  have hD : va_D A [(h0, .inr (4, [.int (nI 0), .null, .int (nI 0), .int (nI 0), .int (nI 0), .int (nI 0), .int (nI 0), .int (nI 0)])), (q7, .inl (cI, 40, .inl (fun _ => 0)))] := hD
  refine va_putF (D := D) (ci := 4) (v := .ref q7) (ty := (.array .int)) (C := RX4) (T := TX4) (N := 8) hx hb hts inX4_init_X4 tyX4 tyX4_ok nmX4 hown hK hP hD hS 0 rfl rfl 1 (by decide) (hts (.fieldLink RX4 11 "ScrambledLine$Reader" "bytes" "[I") (by decide +kernel)) (fun _ h9 => h9) rfl hin rfl (by decide +kernel) rfl rfl (Nat.le_of_ble_eq_true rfl) dX4_init_9 (fun H locs hP hD hS => ?_)
  have hP : va_P D vwCl [(h0, .inr (4, [.int (nI 0), .ref q7, .int (nI 0), .int (nI 0), .int (nI 0), .int (nI 0), .int (nI 0), .int (nI 0)])), (q7, .inl (cI, 40, .inl (fun _ => 0)))] H := hP
  have hD : va_D A [(h0, .inr (4, [.int (nI 0), .ref q7, .int (nI 0), .int (nI 0), .int (nI 0), .int (nI 0), .int (nI 0), .int (nI 0)])), (q7, .inl (cI, 40, .inl (fun _ => 0)))] := hD
  refine lv_aload_n hx hb dX4_init_12 rfl (lv_at hl 0 rfl) ?_
  refine lv_iconst (v := nI 0) hx hb dX4_init_13 rfl ?_
  refine va_put (D := D) (ci := 4) (v := .int (nI 0)) (ty := .int) (C := RX4) (T := TX4) (N := 8) hx hb hts inX4_init_X4 tyX4 tyX4_ok nmX4 hown hK hP hD hS 0 rfl rfl 2 (by decide) (hts (.fieldLink RX4 15 "ScrambledLine$Reader" "nibbles" "I") (by decide +kernel)) (fun _ h9 => h9) rfl (by decide +kernel) rfl rfl (Nat.le_of_ble_eq_true rfl) dX4_init_14 (fun H locs hP hD hS => ?_)
  have hP : va_P D vwCl [(h0, .inr (4, [.int (nI 0), .ref q7, .int (nI 0), .int (nI 0), .int (nI 0), .int (nI 0), .int (nI 0), .int (nI 0)])), (q7, .inl (cI, 40, .inl (fun _ => 0)))] H := hP
  have hD : va_D A [(h0, .inr (4, [.int (nI 0), .ref q7, .int (nI 0), .int (nI 0), .int (nI 0), .int (nI 0), .int (nI 0), .int (nI 0)])), (q7, .inl (cI, 40, .inl (fun _ => 0)))] := hD
  refine lv_aload_n hx hb dX4_init_17 rfl (lv_at hl 0 rfl) ?_
  refine lv_iconst (v := nI 0) hx hb dX4_init_18 rfl ?_
  refine va_put (D := D) (ci := 4) (v := .int (nI 0)) (ty := .int) (C := RX4) (T := TX4) (N := 8) hx hb hts inX4_init_X4 tyX4 tyX4_ok nmX4 hown hK hP hD hS 0 rfl rfl 3 (by decide) (hts (.fieldLink RX4 19 "ScrambledLine$Reader" "group" "I") (by decide +kernel)) (fun _ h9 => h9) rfl (by decide +kernel) rfl rfl (Nat.le_of_ble_eq_true rfl) dX4_init_19 (fun H locs hP hD hS => ?_)
  have hP : va_P D vwCl [(h0, .inr (4, [.int (nI 0), .ref q7, .int (nI 0), .int (nI 0), .int (nI 0), .int (nI 0), .int (nI 0), .int (nI 0)])), (q7, .inl (cI, 40, .inl (fun _ => 0)))] H := hP
  have hD : va_D A [(h0, .inr (4, [.int (nI 0), .ref q7, .int (nI 0), .int (nI 0), .int (nI 0), .int (nI 0), .int (nI 0), .int (nI 0)])), (q7, .inl (cI, 40, .inl (fun _ => 0)))] := hD
  refine lv_aload_n hx hb dX4_init_22 rfl (lv_at hl 0 rfl) ?_
  refine lv_iconst (v := nI 0) hx hb dX4_init_23 rfl ?_
  refine va_put (D := D) (ci := 4) (v := .int (nI 0)) (ty := .int) (C := RX4) (T := TX4) (N := 8) hx hb hts inX4_init_X4 tyX4 tyX4_ok nmX4 hown hK hP hD hS 0 rfl rfl 4 (by decide) (hts (.fieldLink RX4 22 "ScrambledLine$Reader" "groupBits" "I") (by decide +kernel)) (fun _ h9 => h9) rfl (by decide +kernel) rfl rfl (Nat.le_of_ble_eq_true rfl) dX4_init_24 (fun H locs hP hD hS => ?_)
  have hP : va_P D vwCl [(h0, .inr (4, [.int (nI 0), .ref q7, .int (nI 0), .int (nI 0), .int (nI 0), .int (nI 0), .int (nI 0), .int (nI 0)])), (q7, .inl (cI, 40, .inl (fun _ => 0)))] H := hP
  have hD : va_D A [(h0, .inr (4, [.int (nI 0), .ref q7, .int (nI 0), .int (nI 0), .int (nI 0), .int (nI 0), .int (nI 0), .int (nI 0)])), (q7, .inl (cI, 40, .inl (fun _ => 0)))] := hD
  refine lv_aload_n hx hb dX4_init_27 rfl (lv_at hl 0 rfl) ?_
  refine lv_iconst (v := nI 0) hx hb dX4_init_28 rfl ?_
  refine va_put (D := D) (ci := 4) (v := .int (nI 0)) (ty := .boolean) (C := RX4) (T := TX4) (N := 8) hx hb hts inX4_init_X4 tyX4 tyX4_ok nmX4 hown hK hP hD hS 0 rfl rfl 5 (by decide) (hts (.fieldLink RX4 25 "ScrambledLine$Reader" "started" "Z") (by decide +kernel)) (fun _ h9 => h9) rfl (by decide +kernel) rfl rfl (Nat.le_of_ble_eq_true rfl) dX4_init_29 (fun H locs hP hD hS => ?_)
  have hP : va_P D vwCl [(h0, .inr (4, [.int (nI 0), .ref q7, .int (nI 0), .int (nI 0), .int (nI 0), .int (nI 0), .int (nI 0), .int (nI 0)])), (q7, .inl (cI, 40, .inl (fun _ => 0)))] H := hP
  have hD : va_D A [(h0, .inr (4, [.int (nI 0), .ref q7, .int (nI 0), .int (nI 0), .int (nI 0), .int (nI 0), .int (nI 0), .int (nI 0)])), (q7, .inl (cI, 40, .inl (fun _ => 0)))] := hD
  refine lv_aload_n hx hb dX4_init_32 rfl (lv_at hl 0 rfl) ?_
  refine lv_iconst (v := nI 0) hx hb dX4_init_33 rfl ?_
  refine va_put (D := D) (ci := 4) (v := .int (nI 0)) (ty := .boolean) (C := RX4) (T := TX4) (N := 8) hx hb hts inX4_init_X4 tyX4 tyX4_ok nmX4 hown hK hP hD hS 0 rfl rfl 6 (by decide) (hts (.fieldLink RX4 29 "ScrambledLine$Reader" "fault" "Z") (by decide +kernel)) (fun _ h9 => h9) rfl (by decide +kernel) rfl rfl (Nat.le_of_ble_eq_true rfl) dX4_init_34 (fun H locs hP hD hS => ?_)
  have hP : va_P D vwCl [(h0, .inr (4, [.int (nI 0), .ref q7, .int (nI 0), .int (nI 0), .int (nI 0), .int (nI 0), .int (nI 0), .int (nI 0)])), (q7, .inl (cI, 40, .inl (fun _ => 0)))] H := hP
  have hD : va_D A [(h0, .inr (4, [.int (nI 0), .ref q7, .int (nI 0), .int (nI 0), .int (nI 0), .int (nI 0), .int (nI 0), .int (nI 0)])), (q7, .inl (cI, 40, .inl (fun _ => 0)))] := hD
  refine lv_aload_n hx hb dX4_init_37 rfl (lv_at hl 0 rfl) ?_
  refine lv_iconst (v := nI 0) hx hb dX4_init_38 rfl ?_
  refine va_put (D := D) (ci := 4) (v := .int (nI 0)) (ty := .boolean) (C := RX4) (T := TX4) (N := 8) hx hb hts inX4_init_X4 tyX4 tyX4_ok nmX4 hown hK hP hD hS 0 rfl rfl 7 (by decide) (hts (.fieldLink RX4 32 "ScrambledLine$Reader" "behindT" "Z") (by decide +kernel)) (fun _ h9 => h9) rfl (by decide +kernel) rfl rfl (Nat.le_of_ble_eq_true rfl) dX4_init_39 (fun H locs hP hD hS => ?_)
  have hP : va_P D vwCl [(h0, .inr (4, [.int (nI 0), .ref q7, .int (nI 0), .int (nI 0), .int (nI 0), .int (nI 0), .int (nI 0), .int (nI 0)])), (q7, .inl (cI, 40, .inl (fun _ => 0)))] H := hP
  have hD : va_D A [(h0, .inr (4, [.int (nI 0), .ref q7, .int (nI 0), .int (nI 0), .int (nI 0), .int (nI 0), .int (nI 0), .int (nI 0)])), (q7, .inl (cI, 40, .inl (fun _ => 0)))] := hD
  refine lv_aload_n hx hb dX4_init_42 rfl (lv_at hl 0 rfl) ?_
  refine lv_iload_n hx hb dX4_init_43 rfl (lv_at hl 1 rfl) ?_
  refine va_putF (D := D) (ci := 4) (v := .int (nI tgt)) (ty := .int) (C := RX4) (T := TX4) (N := 8) hx hb hts inX4_init_X4 tyX4 tyX4_ok nmX4 hown hK hP hD hS 0 rfl rfl 0 (by decide) (hts (.fieldLink RX4 35 "ScrambledLine$Reader" "address" "I") (by decide +kernel)) (fun _ h9 => h9) rfl hin rfl (by decide +kernel) rfl rfl (Nat.le_of_ble_eq_true rfl) dX4_init_44 (fun H locs hP hD hS => ?_)
  have hP : va_P D vwCl [(h0, .inr (4, [.int (nI tgt), .ref q7, .int (nI 0), .int (nI 0), .int (nI 0), .int (nI 0), .int (nI 0), .int (nI 0)])), (q7, .inl (cI, 40, .inl (fun _ => 0)))] H := hP
  have hD : va_D A [(h0, .inr (4, [.int (nI tgt), .ref q7, .int (nI 0), .int (nI 0), .int (nI 0), .int (nI 0), .int (nI 0), .int (nI 0)])), (q7, .inl (cI, 40, .inl (fun _ => 0)))] := hD
  refine W_q hQ ?_
  exact rt_v q7 hx hb hr hlocks dX4_init_47 hS hP hD trivial

theorem inX4_begin_X4 : ∀ w ∈ u_ws RX4 TX4 8, w ∈ wsX4_begin := by decide +kernel
set_option maxHeartbeats 4000000 in
set_option maxRecDepth 100000 in
theorem c_X4_begin (l : Launch) (D : va_G) (cI cG : ClassId) (tt : Nat × Nat × Nat) (sz : Nat) (h0 : Nat) (ba : Nat) (tgt : Nat) (nb : Int32) (g : Int32) (gb : Int32) (st : Int32) (fa : Int32) (bt : Int32) : Met l yX4_begin wsX4_begin ({ frames := 0, cells := 0, slots := 0, locals := 0 }) (PC D cI cG tt [.ref h0] [(h0, .inr (4, [.int (nI tgt), .ref ba, .int nb, .int g, .int gb, .int st, .int fa, .int bt]))] sz) (QV (fun (u : Unit) => True) (fun (u : Unit) => [(h0, .inr (4, [.int (nI tgt), .ref ba, .int (nI 0), .int (nI 0), .int (nI 0), .int (nI 0), .int (nI 0), .int (nI 0)]))]) D (va_A [(h0, .inr (4, [.int (nI tgt), .ref ba, .int nb, .int g, .int gb, .int st, .int fa, .int bt]))] sz)) 0 0 (va_A [(h0, .inr (4, [.int (nI tgt), .ref ba, .int nb, .int g, .int gb, .int st, .int fa, .int bt]))] sz) := by
  refine ct_of (y := yX4_begin) (cc := cX4_begin) (maxL := 1) (ret := none) (Qf := QV (fun (u : Unit) => True) (fun (u : Unit) => [(h0, .inr (4, [.int (nI tgt), .ref ba, .int (nI 0), .int (nI 0), .int (nI 0), .int (nI 0), .int (nI 0), .int (nI 0)]))]) D) (by decide) rfl ?_
  intro p e s m args below meth c A Q R H locs hR hQ hx hb hml hr hts hown hlocks hin hP hD hE hT hA hS
  have hK := hE.1
  have hl := lv_entry ([.ref h0]) (n := 1) (Nat.le_of_ble_eq_true rfl)
  rw [lg_entry_eq]
  generalize (lg_sl ([.ref h0]) ++ List.replicate (1 - (lg_sl ([.ref h0])).length) Slot.unset).toArray = ls at hl ⊢
  have hl : lv_has ls 1 [(0, .ref h0)] := hl
  refine lv_aload_n hx hb dX4_begin_0 rfl (lv_at hl 0 rfl) ?_
  refine lv_iconst (v := nI 0) hx hb dX4_begin_1 rfl ?_
  refine va_put (D := D) (ci := 4) (v := .int (nI 0)) (ty := .int) (C := RX4) (T := TX4) (N := 8) hx hb hts inX4_begin_X4 tyX4 tyX4_ok nmX4 hown hK hP hD hS 0 rfl rfl 2 (by decide) (hts (.fieldLink RX4 15 "ScrambledLine$Reader" "nibbles" "I") (by decide +kernel)) (fun _ h9 => h9) rfl (by decide +kernel) rfl rfl (Nat.le_of_ble_eq_true rfl) dX4_begin_2 (fun H locs hP hD hS => ?_)
  have hP : va_P D vwCl [(h0, .inr (4, [.int (nI tgt), .ref ba, .int (nI 0), .int g, .int gb, .int st, .int fa, .int bt]))] H := hP
  have hD : va_D A [(h0, .inr (4, [.int (nI tgt), .ref ba, .int (nI 0), .int g, .int gb, .int st, .int fa, .int bt]))] := hD
  refine lv_aload_n hx hb dX4_begin_5 rfl (lv_at hl 0 rfl) ?_
  refine lv_iconst (v := nI 0) hx hb dX4_begin_6 rfl ?_
  refine va_put (D := D) (ci := 4) (v := .int (nI 0)) (ty := .int) (C := RX4) (T := TX4) (N := 8) hx hb hts inX4_begin_X4 tyX4 tyX4_ok nmX4 hown hK hP hD hS 0 rfl rfl 3 (by decide) (hts (.fieldLink RX4 19 "ScrambledLine$Reader" "group" "I") (by decide +kernel)) (fun _ h9 => h9) rfl (by decide +kernel) rfl rfl (Nat.le_of_ble_eq_true rfl) dX4_begin_7 (fun H locs hP hD hS => ?_)
  have hP : va_P D vwCl [(h0, .inr (4, [.int (nI tgt), .ref ba, .int (nI 0), .int (nI 0), .int gb, .int st, .int fa, .int bt]))] H := hP
  have hD : va_D A [(h0, .inr (4, [.int (nI tgt), .ref ba, .int (nI 0), .int (nI 0), .int gb, .int st, .int fa, .int bt]))] := hD
  refine lv_aload_n hx hb dX4_begin_10 rfl (lv_at hl 0 rfl) ?_
  refine lv_iconst (v := nI 0) hx hb dX4_begin_11 rfl ?_
  refine va_put (D := D) (ci := 4) (v := .int (nI 0)) (ty := .int) (C := RX4) (T := TX4) (N := 8) hx hb hts inX4_begin_X4 tyX4 tyX4_ok nmX4 hown hK hP hD hS 0 rfl rfl 4 (by decide) (hts (.fieldLink RX4 22 "ScrambledLine$Reader" "groupBits" "I") (by decide +kernel)) (fun _ h9 => h9) rfl (by decide +kernel) rfl rfl (Nat.le_of_ble_eq_true rfl) dX4_begin_12 (fun H locs hP hD hS => ?_)
  have hP : va_P D vwCl [(h0, .inr (4, [.int (nI tgt), .ref ba, .int (nI 0), .int (nI 0), .int (nI 0), .int st, .int fa, .int bt]))] H := hP
  have hD : va_D A [(h0, .inr (4, [.int (nI tgt), .ref ba, .int (nI 0), .int (nI 0), .int (nI 0), .int st, .int fa, .int bt]))] := hD
  refine lv_aload_n hx hb dX4_begin_15 rfl (lv_at hl 0 rfl) ?_
  refine lv_iconst (v := nI 0) hx hb dX4_begin_16 rfl ?_
  refine va_put (D := D) (ci := 4) (v := .int (nI 0)) (ty := .boolean) (C := RX4) (T := TX4) (N := 8) hx hb hts inX4_begin_X4 tyX4 tyX4_ok nmX4 hown hK hP hD hS 0 rfl rfl 5 (by decide) (hts (.fieldLink RX4 25 "ScrambledLine$Reader" "started" "Z") (by decide +kernel)) (fun _ h9 => h9) rfl (by decide +kernel) rfl rfl (Nat.le_of_ble_eq_true rfl) dX4_begin_17 (fun H locs hP hD hS => ?_)
  have hP : va_P D vwCl [(h0, .inr (4, [.int (nI tgt), .ref ba, .int (nI 0), .int (nI 0), .int (nI 0), .int (nI 0), .int fa, .int bt]))] H := hP
  have hD : va_D A [(h0, .inr (4, [.int (nI tgt), .ref ba, .int (nI 0), .int (nI 0), .int (nI 0), .int (nI 0), .int fa, .int bt]))] := hD
  refine lv_aload_n hx hb dX4_begin_20 rfl (lv_at hl 0 rfl) ?_
  refine lv_iconst (v := nI 0) hx hb dX4_begin_21 rfl ?_
  refine va_put (D := D) (ci := 4) (v := .int (nI 0)) (ty := .boolean) (C := RX4) (T := TX4) (N := 8) hx hb hts inX4_begin_X4 tyX4 tyX4_ok nmX4 hown hK hP hD hS 0 rfl rfl 6 (by decide) (hts (.fieldLink RX4 29 "ScrambledLine$Reader" "fault" "Z") (by decide +kernel)) (fun _ h9 => h9) rfl (by decide +kernel) rfl rfl (Nat.le_of_ble_eq_true rfl) dX4_begin_22 (fun H locs hP hD hS => ?_)
  have hP : va_P D vwCl [(h0, .inr (4, [.int (nI tgt), .ref ba, .int (nI 0), .int (nI 0), .int (nI 0), .int (nI 0), .int (nI 0), .int bt]))] H := hP
  have hD : va_D A [(h0, .inr (4, [.int (nI tgt), .ref ba, .int (nI 0), .int (nI 0), .int (nI 0), .int (nI 0), .int (nI 0), .int bt]))] := hD
  refine lv_aload_n hx hb dX4_begin_25 rfl (lv_at hl 0 rfl) ?_
  refine lv_iconst (v := nI 0) hx hb dX4_begin_26 rfl ?_
  refine va_put (D := D) (ci := 4) (v := .int (nI 0)) (ty := .boolean) (C := RX4) (T := TX4) (N := 8) hx hb hts inX4_begin_X4 tyX4 tyX4_ok nmX4 hown hK hP hD hS 0 rfl rfl 7 (by decide) (hts (.fieldLink RX4 32 "ScrambledLine$Reader" "behindT" "Z") (by decide +kernel)) (fun _ h9 => h9) rfl (by decide +kernel) rfl rfl (Nat.le_of_ble_eq_true rfl) dX4_begin_27 (fun H locs hP hD hS => ?_)
  have hP : va_P D vwCl [(h0, .inr (4, [.int (nI tgt), .ref ba, .int (nI 0), .int (nI 0), .int (nI 0), .int (nI 0), .int (nI 0), .int (nI 0)]))] H := hP
  have hD : va_D A [(h0, .inr (4, [.int (nI tgt), .ref ba, .int (nI 0), .int (nI 0), .int (nI 0), .int (nI 0), .int (nI 0), .int (nI 0)]))] := hD
  refine W_q hQ ?_
  exact rt_v () hx hb hr hlocks dX4_begin_30 hS hP hD trivial

theorem inX4_keepNibble_X4 : ∀ w ∈ u_ws RX4 TX4 8, w ∈ wsX4_keepNibble := by decide +kernel
set_option maxHeartbeats 4000000 in
set_option maxRecDepth 100000 in
theorem c_X4_keepNibble (l : Launch) (D : va_G) (cI cG : ClassId) (tt : Nat × Nat × Nat) (sz : Nat) (h0 : Nat) (ba : Nat) (tgt : Nat) (nb : Nat) (g : Int32) (gb : Int32) (st : Bool) (fa : Bool) (bt : Bool) (bf : Nat → Int32) (nf : Nat → Nat) (n : Nat) (hnb : nb < 80) (hB : RB bf nb nf) (hn : n < 16) : Met l yX4_keepNibble wsX4_keepNibble ({ frames := 0, cells := 0, slots := 0, locals := 0 }) (PC D cI cG tt [.ref h0, .int (nI n)] [(h0, .inr (4, [.int (nI tgt), .ref ba, .int (nI nb), .int g, .int gb, .int (bI st), .int (bI fa), .int (bI bt)])), (ba, .inl (cI, 40, .inl bf))] sz) (QV (fun (u : (Nat → Int32)) => match u with | bf2 => RB bf2 (nb + 1) (updN nf nb n)) (fun (u : (Nat → Int32)) => match u with | bf2 => [(h0, .inr (4, [.int (nI tgt), .ref ba, .int (nI (nb + 1)), .int g, .int gb, .int (bI st), .int (bI fa), .int (bI bt)])), (ba, .inl (cI, 40, .inl bf2))]) D (va_A [(h0, .inr (4, [.int (nI tgt), .ref ba, .int (nI nb), .int g, .int gb, .int (bI st), .int (bI fa), .int (bI bt)])), (ba, .inl (cI, 40, .inl bf))] sz)) 0 0 (va_A [(h0, .inr (4, [.int (nI tgt), .ref ba, .int (nI nb), .int g, .int gb, .int (bI st), .int (bI fa), .int (bI bt)])), (ba, .inl (cI, 40, .inl bf))] sz) := by
  refine ct_of (y := yX4_keepNibble) (cc := cX4_keepNibble) (maxL := 3) (ret := none) (Qf := QV (fun (u : (Nat → Int32)) => match u with | bf2 => RB bf2 (nb + 1) (updN nf nb n)) (fun (u : (Nat → Int32)) => match u with | bf2 => [(h0, .inr (4, [.int (nI tgt), .ref ba, .int (nI (nb + 1)), .int g, .int gb, .int (bI st), .int (bI fa), .int (bI bt)])), (ba, .inl (cI, 40, .inl bf2))]) D) (by decide) rfl ?_
  intro p e s m args below meth c A Q R H locs hR hQ hx hb hml hr hts hown hlocks hin hP hD hE hT hA hS
  have hK := hE.1
  have hl := lv_entry ([.ref h0, .int (nI n)]) (n := 3) (Nat.le_of_ble_eq_true rfl)
  rw [lg_entry_eq]
  generalize (lg_sl ([.ref h0, .int (nI n)]) ++ List.replicate (3 - (lg_sl ([.ref h0, .int (nI n)])).length) Slot.unset).toArray = ls at hl ⊢
  have hl : lv_has ls 3 [(0, .ref h0), (1, .int (nI n))] := hl
  refine lv_aload_n hx hb dX4_keepNibble_0 rfl (lv_at hl 0 rfl) ?_
  refine va_get (D := D) (ci := 4) (v := .int (nI nb)) (C := RX4) (T := TX4) (N := 8) hx hb hts inX4_keepNibble_X4 hown hK hP 0 rfl rfl 2 (by decide) (hts (.fieldLink RX4 15 "ScrambledLine$Reader" "nibbles" "I") (by decide +kernel)) (fun _ h9 => h9) rfl dX4_keepNibble_1 ?_
  refine lv_bipush (v := nI 80) hx hb dX4_keepNibble_4 rfl ?_
  refine lv_icmp_lt (tgt := 10) hx hb dX4_keepNibble_6 (by decide) (fun c6 => ?_) (fun c6 => ?_)
  · skip
    have k6 : nb < 80 := (nI_ltI (a := nb) (b := 80) (by omega) (by omega)).mp c6
    refine lv_aload_n hx hb dX4_keepNibble_10 rfl (lv_at hl 0 rfl) ?_
    refine va_get (D := D) (ci := 4) (v := .int (nI nb)) (C := RX4) (T := TX4) (N := 8) hx hb hts inX4_keepNibble_X4 hown hK hP 0 rfl rfl 2 (by decide) (hts (.fieldLink RX4 15 "ScrambledLine$Reader" "nibbles" "I") (by decide +kernel)) (fun _ h9 => h9) rfl dX4_keepNibble_11 ?_
    refine lv_iconst (v := nI 2) hx hb dX4_keepNibble_14 rfl ?_
    refine lv_idiv hx hb dX4_keepNibble_15 (by decide) ?_
    refine lv_to (y := nI (nb / 2)) (pk_div (by omega) (by decide) (by decide)) ?_
    refine lv_istore_n (lv' := [(2, .int (nI (nb / 2))), (0, .ref h0), (1, .int (nI n))]) hx hb dX4_keepNibble_16 rfl hl (by decide) rfl (fun ls hl => ?_)
    refine lv_aload_n hx hb dX4_keepNibble_17 rfl (lv_at hl 1 rfl) ?_
    refine va_get (D := D) (ci := 4) (v := .ref ba) (C := RX4) (T := TX4) (N := 8) hx hb hts inX4_keepNibble_X4 hown hK hP 0 rfl rfl 1 (by decide) (hts (.fieldLink RX4 11 "ScrambledLine$Reader" "bytes" "[I") (by decide +kernel)) (fun _ h9 => h9) rfl dX4_keepNibble_18 ?_
    refine lv_iload_n hx hb dX4_keepNibble_21 rfl (lv_at hl 0 rfl) ?_
    refine lv_aload_n hx hb dX4_keepNibble_22 rfl (lv_at hl 1 rfl) ?_
    refine va_get (D := D) (ci := 4) (v := .int (nI nb)) (C := RX4) (T := TX4) (N := 8) hx hb hts inX4_keepNibble_X4 hown hK hP 0 rfl rfl 2 (by decide) (hts (.fieldLink RX4 15 "ScrambledLine$Reader" "nibbles" "I") (by decide +kernel)) (fun _ h9 => h9) rfl dX4_keepNibble_23 ?_
    refine lv_iconst (v := nI 2) hx hb dX4_keepNibble_26 rfl ?_
    refine lv_irem hx hb dX4_keepNibble_27 (by decide) ?_
    refine lv_to (y := nI (nb % 2)) (pk_rem (by omega) (by decide) (by decide)) ?_
    refine lv_if_ne (tgt := 35) hx hb dX4_keepNibble_28 (by decide) (fun c28 => ?_) (fun c28 => ?_)
    · skip
      have k28 : ¬ (nb % 2) = 0 := fun zq => c28 ((nI_eq (a := (nb % 2)) (b := 0) (by omega) (by omega)).mpr zq)
      refine lv_aload_n hx hb dX4_keepNibble_35 rfl (lv_at hl 1 rfl) ?_
      refine va_get (D := D) (ci := 4) (v := .ref ba) (C := RX4) (T := TX4) (N := 8) hx hb hts inX4_keepNibble_X4 hown hK hP 0 rfl rfl 1 (by decide) (hts (.fieldLink RX4 11 "ScrambledLine$Reader" "bytes" "[I") (by decide +kernel)) (fun _ h9 => h9) rfl dX4_keepNibble_36 ?_
      refine lv_iload_n hx hb dX4_keepNibble_39 rfl (lv_at hl 0 rfl) ?_
      refine gl_i hx hb hK hP 1 rfl (i := (nb / 2)) (by omega) (by first | decide | omega) dX4_keepNibble_40 ?_
      refine lv_bipush (v := nI 16) hx hb dX4_keepNibble_41 rfl ?_
      refine lv_iload_n hx hb dX4_keepNibble_43 rfl (lv_at hl 2 rfl) ?_
      refine lv_imul hx hb dX4_keepNibble_44 ?_
      refine lv_to (y := nI (16 * n)) (pk_mul 16 n) ?_
      refine lv_iadd hx hb dX4_keepNibble_45 ?_
      refine gs_i hx hb hK hP hD hS 1 rfl (i := (nb / 2)) (x := (bf (nb / 2)) + (nI (16 * n))) (by omega) (by first | decide | omega) dX4_keepNibble_46 (fun H locs hP hD hS => ?_)
      have hP : va_P D vwCl [(h0, .inr (4, [.int (nI tgt), .ref ba, .int (nI nb), .int g, .int gb, .int (bI st), .int (bI fa), .int (bI bt)])), (ba, .inl (cI, 40, .inl (upd bf (nb / 2) ((bf (nb / 2)) + (nI (16 * n))))))] H := hP
      have hD : va_D A [(h0, .inr (4, [.int (nI tgt), .ref ba, .int (nI nb), .int g, .int gb, .int (bI st), .int (bI fa), .int (bI bt)])), (ba, .inl (cI, 40, .inl (upd bf (nb / 2) ((bf (nb / 2)) + (nI (16 * n))))))] := hD
      refine lv_aload_n hx hb dX4_keepNibble_47 rfl (lv_at hl 1 rfl) ?_
      refine lv_dup hx hb dX4_keepNibble_48 rfl ?_
      refine va_get (D := D) (ci := 4) (v := .int (nI nb)) (C := RX4) (T := TX4) (N := 8) hx hb hts inX4_keepNibble_X4 hown hK hP 0 rfl rfl 2 (by decide) (hts (.fieldLink RX4 15 "ScrambledLine$Reader" "nibbles" "I") (by decide +kernel)) (fun _ h9 => h9) rfl dX4_keepNibble_49 ?_
      refine lv_iconst (v := nI 1) hx hb dX4_keepNibble_52 rfl ?_
      refine lv_iadd hx hb dX4_keepNibble_53 ?_
      refine lv_to (y := nI (nb + 1)) (nI_add nb 1) ?_
      refine va_put (D := D) (ci := 4) (v := .int (nI (nb + 1))) (ty := .int) (C := RX4) (T := TX4) (N := 8) hx hb hts inX4_keepNibble_X4 tyX4 tyX4_ok nmX4 hown hK hP hD hS 0 rfl rfl 2 (by decide) (hts (.fieldLink RX4 15 "ScrambledLine$Reader" "nibbles" "I") (by decide +kernel)) (fun _ h9 => h9) rfl (by decide +kernel) rfl rfl (Nat.le_of_ble_eq_true rfl) dX4_keepNibble_54 (fun H locs hP hD hS => ?_)
      have hP : va_P D vwCl [(h0, .inr (4, [.int (nI tgt), .ref ba, .int (nI (nb + 1)), .int g, .int gb, .int (bI st), .int (bI fa), .int (bI bt)])), (ba, .inl (cI, 40, .inl (upd bf (nb / 2) ((bf (nb / 2)) + (nI (16 * n))))))] H := hP
      have hD : va_D A [(h0, .inr (4, [.int (nI tgt), .ref ba, .int (nI (nb + 1)), .int g, .int gb, .int (bI st), .int (bI fa), .int (bI bt)])), (ba, .inl (cI, 40, .inl (upd bf (nb / 2) ((bf (nb / 2)) + (nI (16 * n))))))] := hD
      refine W_q hQ ?_
      exact rt_v (upd bf (nb / 2) ((bf (nb / 2)) + (nI (16 * n)))) hx hb hr hlocks dX4_keepNibble_57 hS hP hD (RB_odd hB k28 hn)
    · skip
      have k28 : (nb % 2) = 0 := (nI_eq (a := (nb % 2)) (b := 0) (by omega) (by omega)).mp c28
      refine lv_iload_n hx hb dX4_keepNibble_31 rfl (lv_at hl 2 rfl) ?_
      refine lv_goto (tgt := 46) hx hb dX4_keepNibble_32 (by decide) ?_
      refine gs_i hx hb hK hP hD hS 1 rfl (i := (nb / 2)) (x := nI n) (by omega) (by first | decide | omega) dX4_keepNibble_46 (fun H locs hP hD hS => ?_)
      have hP : va_P D vwCl [(h0, .inr (4, [.int (nI tgt), .ref ba, .int (nI nb), .int g, .int gb, .int (bI st), .int (bI fa), .int (bI bt)])), (ba, .inl (cI, 40, .inl (upd bf (nb / 2) (nI n))))] H := hP
      have hD : va_D A [(h0, .inr (4, [.int (nI tgt), .ref ba, .int (nI nb), .int g, .int gb, .int (bI st), .int (bI fa), .int (bI bt)])), (ba, .inl (cI, 40, .inl (upd bf (nb / 2) (nI n))))] := hD
      refine lv_aload_n hx hb dX4_keepNibble_47 rfl (lv_at hl 1 rfl) ?_
      refine lv_dup hx hb dX4_keepNibble_48 rfl ?_
      refine va_get (D := D) (ci := 4) (v := .int (nI nb)) (C := RX4) (T := TX4) (N := 8) hx hb hts inX4_keepNibble_X4 hown hK hP 0 rfl rfl 2 (by decide) (hts (.fieldLink RX4 15 "ScrambledLine$Reader" "nibbles" "I") (by decide +kernel)) (fun _ h9 => h9) rfl dX4_keepNibble_49 ?_
      refine lv_iconst (v := nI 1) hx hb dX4_keepNibble_52 rfl ?_
      refine lv_iadd hx hb dX4_keepNibble_53 ?_
      refine lv_to (y := nI (nb + 1)) (nI_add nb 1) ?_
      refine va_put (D := D) (ci := 4) (v := .int (nI (nb + 1))) (ty := .int) (C := RX4) (T := TX4) (N := 8) hx hb hts inX4_keepNibble_X4 tyX4 tyX4_ok nmX4 hown hK hP hD hS 0 rfl rfl 2 (by decide) (hts (.fieldLink RX4 15 "ScrambledLine$Reader" "nibbles" "I") (by decide +kernel)) (fun _ h9 => h9) rfl (by decide +kernel) rfl rfl (Nat.le_of_ble_eq_true rfl) dX4_keepNibble_54 (fun H locs hP hD hS => ?_)
      have hP : va_P D vwCl [(h0, .inr (4, [.int (nI tgt), .ref ba, .int (nI (nb + 1)), .int g, .int gb, .int (bI st), .int (bI fa), .int (bI bt)])), (ba, .inl (cI, 40, .inl (upd bf (nb / 2) (nI n))))] H := hP
      have hD : va_D A [(h0, .inr (4, [.int (nI tgt), .ref ba, .int (nI (nb + 1)), .int g, .int gb, .int (bI st), .int (bI fa), .int (bI bt)])), (ba, .inl (cI, 40, .inl (upd bf (nb / 2) (nI n))))] := hD
      refine W_q hQ ?_
      exact rt_v (upd bf (nb / 2) (nI n)) hx hb hr hlocks dX4_keepNibble_57 hS hP hD (RB_even hB k28 hn)
  · skip
    have k6 : ¬ nb < 80 := fun zq => c6 ((nI_ltI (a := nb) (b := 80) (by omega) (by omega)).mpr zq)
    exact False.elim (by omega)

theorem inX4_takeNibble_X4 : ∀ w ∈ u_ws RX4 TX4 8, w ∈ wsX4_takeNibble := by decide +kernel
set_option maxHeartbeats 4000000 in
set_option maxRecDepth 100000 in
theorem c_X4_takeNibble (l : Launch) (D : va_G) (cI cG : ClassId) (tt : Nat × Nat × Nat) (sz : Nat) (h0 : Nat) (ba : Nat) (tgt : Nat) (nb : Nat) (g : Int32) (gb : Int32) (st : Bool) (fa : Bool) (bt : Bool) (bf : Nat → Int32) (nf : Nat → Nat) (n : Nat) (hnb : nb < 80) (hB : RB bf nb nf) (hn : n ≤ 16) : Met l yX4_takeNibble wsX4_takeNibble ({ frames := 1, cells := 0, slots := 0, locals := 22 }) (PC D cI cG tt [.ref h0, .int (nbI n)] [(h0, .inr (4, [.int (nI tgt), .ref ba, .int (nI nb), .int g, .int gb, .int (bI st), .int (bI fa), .int (bI bt)])), (ba, .inl (cI, 40, .inl bf))] sz) (QV (fun (u : Bool × Bool × Nat × (Nat → Int32)) => match u with | (st2, fa2, nb2, bf2) => st2 = tkS n st ∧ fa2 = tkF n st fa ∧ nb2 = tkB n st nb ∧ RB bf2 nb2 (tkV n st nb nf)) (fun (u : Bool × Bool × Nat × (Nat → Int32)) => match u with | (st2, fa2, nb2, bf2) => [(h0, .inr (4, [.int (nI tgt), .ref ba, .int (nI nb2), .int g, .int gb, .int (bI st2), .int (bI fa2), .int (bI bt)])), (ba, .inl (cI, 40, .inl bf2))]) D (va_A [(h0, .inr (4, [.int (nI tgt), .ref ba, .int (nI nb), .int g, .int gb, .int (bI st), .int (bI fa), .int (bI bt)])), (ba, .inl (cI, 40, .inl bf))] sz)) 0 0 (va_A [(h0, .inr (4, [.int (nI tgt), .ref ba, .int (nI nb), .int g, .int gb, .int (bI st), .int (bI fa), .int (bI bt)])), (ba, .inl (cI, 40, .inl bf))] sz) := by
  refine ct_of (y := yX4_takeNibble) (cc := cX4_takeNibble) (maxL := 2) (ret := none) (Qf := QV (fun (u : Bool × Bool × Nat × (Nat → Int32)) => match u with | (st2, fa2, nb2, bf2) => st2 = tkS n st ∧ fa2 = tkF n st fa ∧ nb2 = tkB n st nb ∧ RB bf2 nb2 (tkV n st nb nf)) (fun (u : Bool × Bool × Nat × (Nat → Int32)) => match u with | (st2, fa2, nb2, bf2) => [(h0, .inr (4, [.int (nI tgt), .ref ba, .int (nI nb2), .int g, .int gb, .int (bI st2), .int (bI fa2), .int (bI bt)])), (ba, .inl (cI, 40, .inl bf2))]) D) (by decide) rfl ?_
  intro p e s m args below meth c A Q R H locs hR hQ hx hb hml hr hts hown hlocks hin hP hD hE hT hA hS
  have hK := hE.1
  have hl := lv_entry ([.ref h0, .int (nbI n)]) (n := 2) (Nat.le_of_ble_eq_true rfl)
  rw [lg_entry_eq]
  generalize (lg_sl ([.ref h0, .int (nbI n)]) ++ List.replicate (2 - (lg_sl ([.ref h0, .int (nbI n)])).length) Slot.unset).toArray = ls at hl ⊢
  have hl : lv_has ls 2 [(0, .ref h0), (1, .int (nbI n))] := hl
  refine lv_iload_n hx hb dX4_takeNibble_0 rfl (lv_at hl 1 rfl) ?_
  refine lv_iconst (v := (-1)) hx hb dX4_takeNibble_1 rfl ?_
  refine lv_icmp_ne (tgt := 13) hx hb dX4_takeNibble_2 (by decide) (fun c2 => ?_) (fun c2 => ?_)
  · skip
    have k2 : n < 16 := nbI_lt hn c2
    have hl : lv_has ls 2 [(0, .ref h0), (1, .int (nI n))] := (nbI_n k2) ▸ hl
    refine lv_aload_n hx hb dX4_takeNibble_13 rfl (lv_at hl 0 rfl) ?_
    refine va_get (D := D) (ci := 4) (v := .int (bI st)) (C := RX4) (T := TX4) (N := 8) hx hb hts inX4_takeNibble_X4 hown hK hP 0 rfl rfl 5 (by decide) (hts (.fieldLink RX4 25 "ScrambledLine$Reader" "started" "Z") (by decide +kernel)) (fun _ h9 => h9) rfl dX4_takeNibble_14 ?_
    refine lv_if_eq (tgt := 28) hx hb dX4_takeNibble_17 (by decide) (fun c17 => ?_) (fun c17 => ?_)
    · skip
      have k17 : st = false := bI_f c17
      refine lv_iload_n hx hb dX4_takeNibble_28 rfl (lv_at hl 1 rfl) ?_
      refine lv_bipush (v := nI 13) hx hb dX4_takeNibble_29 rfl ?_
      refine lv_icmp_ne (tgt := 42) hx hb dX4_takeNibble_31 (by decide) (fun c31 => ?_) (fun c31 => ?_)
      · skip
        have k31 : ¬ n = 13 := fun zq => c31 ((nI_eq (a := n) (b := 13) (by omega) (by omega)).mpr zq)
        refine lv_iload_n hx hb dX4_takeNibble_42 rfl (lv_at hl 1 rfl) ?_
        refine lv_iconst (v := nI 5) hx hb dX4_takeNibble_43 rfl ?_
        refine lv_icmp_eq (tgt := 52) hx hb dX4_takeNibble_44 (by decide) (fun c44 => ?_) (fun c44 => ?_)
        · skip
          have k44 : n = 5 := (nI_eq (a := n) (b := 5) (by omega) (by omega)).mp c44
          refine W_q hQ ?_
          exact rt_v (st, fa, nb, bf) hx hb hr hlocks dX4_takeNibble_52 hS hP hD (tk_5 k17 k44 hB)
        · skip
          have k44 : ¬ n = 5 := fun zq => c44 ((nI_eq (a := n) (b := 5) (by omega) (by omega)).mpr zq)
          refine lv_aload_n hx hb dX4_takeNibble_47 rfl (lv_at hl 0 rfl) ?_
          refine lv_iconst (v := nI 1) hx hb dX4_takeNibble_48 rfl ?_
          refine va_put (D := D) (ci := 4) (v := .int (nI 1)) (ty := .boolean) (C := RX4) (T := TX4) (N := 8) hx hb hts inX4_takeNibble_X4 tyX4 tyX4_ok nmX4 hown hK hP hD hS 0 rfl rfl 6 (by decide) (hts (.fieldLink RX4 29 "ScrambledLine$Reader" "fault" "Z") (by decide +kernel)) (fun _ h9 => h9) rfl (by decide +kernel) rfl rfl (Nat.le_of_ble_eq_true rfl) dX4_takeNibble_49 (fun H locs hP hD hS => ?_)
          have hP : va_P D vwCl [(h0, .inr (4, [.int (nI tgt), .ref ba, .int (nI nb), .int g, .int gb, .int (bI st), .int (nI 1), .int (bI bt)])), (ba, .inl (cI, 40, .inl bf))] H := hP
          have hD : va_D A [(h0, .inr (4, [.int (nI tgt), .ref ba, .int (nI nb), .int g, .int gb, .int (bI st), .int (nI 1), .int (bI bt)])), (ba, .inl (cI, 40, .inl bf))] := hD
          refine W_q hQ ?_
          exact rt_v (st, true, nb, bf) hx hb hr hlocks dX4_takeNibble_52 hS hP hD (tk_fa k2 k17 k31 k44 hB)
      · skip
        have k31 : n = 13 := (nI_eq (a := n) (b := 13) (by omega) (by omega)).mp c31
        refine lv_aload_n hx hb dX4_takeNibble_34 rfl (lv_at hl 0 rfl) ?_
        refine lv_iconst (v := nI 1) hx hb dX4_takeNibble_35 rfl ?_
        refine va_put (D := D) (ci := 4) (v := .int (nI 1)) (ty := .boolean) (C := RX4) (T := TX4) (N := 8) hx hb hts inX4_takeNibble_X4 tyX4 tyX4_ok nmX4 hown hK hP hD hS 0 rfl rfl 5 (by decide) (hts (.fieldLink RX4 25 "ScrambledLine$Reader" "started" "Z") (by decide +kernel)) (fun _ h9 => h9) rfl (by decide +kernel) rfl rfl (Nat.le_of_ble_eq_true rfl) dX4_takeNibble_36 (fun H locs hP hD hS => ?_)
        have hP : va_P D vwCl [(h0, .inr (4, [.int (nI tgt), .ref ba, .int (nI nb), .int g, .int gb, .int (nI 1), .int (bI fa), .int (bI bt)])), (ba, .inl (cI, 40, .inl bf))] H := hP
        have hD : va_D A [(h0, .inr (4, [.int (nI tgt), .ref ba, .int (nI nb), .int g, .int gb, .int (nI 1), .int (bI fa), .int (bI bt)])), (ba, .inl (cI, 40, .inl bf))] := hD
        refine lv_goto (tgt := 52) hx hb dX4_takeNibble_39 (by decide) ?_
        refine W_q hQ ?_
        exact rt_v (true, fa, nb, bf) hx hb hr hlocks dX4_takeNibble_52 hS hP hD (tk_13 k17 k31 hB)
    · skip
      have k17 : st = true := bI_t c17
      refine lv_aload_n hx hb dX4_takeNibble_20 rfl (lv_at hl 0 rfl) ?_
      refine lv_iload_n hx hb dX4_takeNibble_21 rfl (lv_at hl 1 rfl) ?_
      refine ca_v (wr := []) (ru_V (As := [.int (nI n)]) (rest := []) ⟨hx, hb, hml, hown, hts⟩ (c_X4_keepNibble l D cI cG tt H.size h0 ba tgt nb g gb st fa bt bf nf n (by omega) hB (by omega)) (cwV 1 hts gX4_takeNibble_X4_keepNibble rfl rfl rfl (by decide +kernel) ⟨by rw [hR]; exact Nat.le_of_ble_eq_true rfl, by rw [hR]; exact Nat.le_of_ble_eq_true rfl⟩) hP hD hE hT hS hA [0, 1] rfl (by decide) (va_recv hK hP (ci := 4) (q0 := 0) rfl rfl) rfl hl.1 rfl (Nat.le_of_ble_eq_true rfl) dX4_takeNibble_22 ⟨by rw [hR]; exact Nat.le_of_ble_eq_true rfl, by rw [hR]; exact Nat.le_of_ble_eq_true rfl⟩) hP hD hS hA [0, 1] [] rfl rfl (by decide) (by decide) (fun u H locs hw hP hD hS => ?_)
      obtain ⟨bf2_22, rfl⟩ : ∃ z, z = u := ⟨_, rfl⟩
      have hB2_22 := hw
      have hP : va_P D vwCl [(h0, .inr (4, [.int (nI tgt), .ref ba, .int (nI (nb + 1)), .int g, .int gb, .int (bI st), .int (bI fa), .int (bI bt)])), (ba, .inl (cI, 40, .inl bf2_22))] H := hP
      have hD : va_D A [(h0, .inr (4, [.int (nI tgt), .ref ba, .int (nI (nb + 1)), .int g, .int gb, .int (bI st), .int (bI fa), .int (bI bt)])), (ba, .inl (cI, 40, .inl bf2_22))] := hD
      refine lv_goto (tgt := 52) hx hb dX4_takeNibble_25 (by decide) ?_
      refine W_q hQ ?_
      exact rt_v (st, fa, nb + 1, bf2_22) hx hb hr hlocks dX4_takeNibble_52 hS hP hD (tk_keep k2 k17 hB2_22)
  · skip
    have k2 : n = 16 := nbI_16 hn c2
    subst k2
    refine lv_aload_n hx hb dX4_takeNibble_5 rfl (lv_at hl 0 rfl) ?_
    refine lv_iconst (v := nI 1) hx hb dX4_takeNibble_6 rfl ?_
    refine va_put (D := D) (ci := 4) (v := .int (nI 1)) (ty := .boolean) (C := RX4) (T := TX4) (N := 8) hx hb hts inX4_takeNibble_X4 tyX4 tyX4_ok nmX4 hown hK hP hD hS 0 rfl rfl 6 (by decide) (hts (.fieldLink RX4 29 "ScrambledLine$Reader" "fault" "Z") (by decide +kernel)) (fun _ h9 => h9) rfl (by decide +kernel) rfl rfl (Nat.le_of_ble_eq_true rfl) dX4_takeNibble_7 (fun H locs hP hD hS => ?_)
    have hP : va_P D vwCl [(h0, .inr (4, [.int (nI tgt), .ref ba, .int (nI nb), .int g, .int gb, .int (bI st), .int (nI 1), .int (bI bt)])), (ba, .inl (cI, 40, .inl bf))] H := hP
    have hD : va_D A [(h0, .inr (4, [.int (nI tgt), .ref ba, .int (nI nb), .int g, .int gb, .int (bI st), .int (nI 1), .int (bI bt)])), (ba, .inl (cI, 40, .inl bf))] := hD
    refine lv_goto (tgt := 52) hx hb dX4_takeNibble_10 (by decide) ?_
    refine W_q hQ ?_
    exact rt_v (st, true, nb, bf) hx hb hr hlocks dX4_takeNibble_52 hS hP hD (⟨tkS_16 st, rfl, rfl, hB⟩)

theorem inX4_checkRead_X4 : ∀ w ∈ u_ws RX4 TX4 8, w ∈ wsX4_checkRead := by decide +kernel
set_option maxHeartbeats 4000000 in
set_option maxRecDepth 100000 in
theorem c_X4_checkRead (l : Launch) (D : va_G) (cI cG : ClassId) (tt : Nat × Nat × Nat) (sz : Nat) (h0 : Nat) (ba : Nat) (tgt : Nat) (nb : Nat) (g : Int32) (gb : Int32) (st : Bool) (fa : Bool) (bt : Bool) (bf : Nat → Int32) (a : Nat) (b : Nat → Nat) (ha : a + 4 ≤ 40) (hb4 : ∀ k, k < 4 → bf (a + k) = nI (b k) ∧ b k < 256) : Met l yX4_checkRead wsX4_checkRead ({ frames := 0, cells := 0, slots := 0, locals := 0 }) (PC D cI cG tt [.ref h0, .int (nI a)] [(h0, .inr (4, [.int (nI tgt), .ref ba, .int (nI nb), .int g, .int gb, .int (bI st), .int (bI fa), .int (bI bt)])), (ba, .inl (cI, 40, .inl bf))] sz) (QI (fun (r : Int32) (u : Unit) => r = nI ((((0 * 256 + b 3) * 256 + b 2) * 256 + b 1) * 256 + b 0)) (fun (u : Unit) => [(h0, .inr (4, [.int (nI tgt), .ref ba, .int (nI nb), .int g, .int gb, .int (bI st), .int (bI fa), .int (bI bt)])), (ba, .inl (cI, 40, .inl bf))]) D (va_A [(h0, .inr (4, [.int (nI tgt), .ref ba, .int (nI nb), .int g, .int gb, .int (bI st), .int (bI fa), .int (bI bt)])), (ba, .inl (cI, 40, .inl bf))] sz)) 0 0 (va_A [(h0, .inr (4, [.int (nI tgt), .ref ba, .int (nI nb), .int g, .int gb, .int (bI st), .int (bI fa), .int (bI bt)])), (ba, .inl (cI, 40, .inl bf))] sz) := by
  refine ct_of (y := yX4_checkRead) (cc := cX4_checkRead) (maxL := 4) (ret := (some .int)) (Qf := QI (fun (r : Int32) (u : Unit) => r = nI ((((0 * 256 + b 3) * 256 + b 2) * 256 + b 1) * 256 + b 0)) (fun (u : Unit) => [(h0, .inr (4, [.int (nI tgt), .ref ba, .int (nI nb), .int g, .int gb, .int (bI st), .int (bI fa), .int (bI bt)])), (ba, .inl (cI, 40, .inl bf))]) D) (by decide) rfl ?_
  intro p e s m args below meth c A Q R H locs hR hQ hx hb hml hr hts hown hlocks hin hP hD hE hT hA hS
  have hK := hE.1
  have hl := lv_entry ([.ref h0, .int (nI a)]) (n := 4) (Nat.le_of_ble_eq_true rfl)
  rw [lg_entry_eq]
  generalize (lg_sl ([.ref h0, .int (nI a)]) ++ List.replicate (4 - (lg_sl ([.ref h0, .int (nI a)])).length) Slot.unset).toArray = ls at hl ⊢
  have hl : lv_has ls 4 [(0, .ref h0), (1, .int (nI a))] := hl
  have h0b := (hb4 0 (by decide)).2
  have h1b := (hb4 1 (by decide)).2
  have h2b := (hb4 2 (by decide)).2
  have h3b := (hb4 3 (by decide)).2
  refine lv_iconst (v := nI 0) hx hb dX4_checkRead_0 rfl ?_
  refine lv_istore_n (lv' := [(2, .int (nI 0)), (0, .ref h0), (1, .int (nI a))]) hx hb dX4_checkRead_1 rfl hl (by decide) rfl (fun ls hl => ?_)
  refine lv_iconst (v := nI 3) hx hb dX4_checkRead_2 rfl ?_
  refine lv_istore_n (lv' := [(3, .int (nI 3)), (2, .int (nI 0)), (0, .ref h0), (1, .int (nI a))]) hx hb dX4_checkRead_3 rfl hl (by decide) rfl (fun ls hl => ?_)
  refine lv_iload_n hx hb dX4_checkRead_4 rfl (lv_at hl 0 rfl) ?_
  refine lv_if_lt (tgt := 28) hx hb dX4_checkRead_5 (by decide) (fun c5 => ?_) (fun c5 => ?_)
  · skip
    
    exact absurd c5 (by decide)
  · skip
    
    refine lv_iload_n hx hb dX4_checkRead_8 rfl (lv_at hl 1 rfl) ?_
    refine lv_bipush (v := nI 8) hx hb dX4_checkRead_9 rfl ?_
    refine lv_ishl hx hb dX4_checkRead_11 ?_
    refine lv_to (y := nI (0 * 256)) (pk_shlN (n := 0) _ 8 rfl (by omega)) ?_
    refine lv_aload_n hx hb dX4_checkRead_12 rfl (lv_at hl 2 rfl) ?_
    refine va_get (D := D) (ci := 4) (v := .ref ba) (C := RX4) (T := TX4) (N := 8) hx hb hts inX4_checkRead_X4 hown hK hP 0 rfl rfl 1 (by decide) (hts (.fieldLink RX4 11 "ScrambledLine$Reader" "bytes" "[I") (by decide +kernel)) (fun _ h9 => h9) rfl dX4_checkRead_13 ?_
    refine lv_iload_n hx hb dX4_checkRead_16 rfl (lv_at hl 3 rfl) ?_
    refine lv_iload_n hx hb dX4_checkRead_17 rfl (lv_at hl 0 rfl) ?_
    refine lv_iadd hx hb dX4_checkRead_18 ?_
    refine lv_to (y := nI (a + 3)) (nI_add a 3) ?_
    refine gl_i hx hb hK hP 1 rfl (i := (a + 3)) (by omega) (by first | decide | omega) dX4_checkRead_19 ?_
    refine lv_to (y := nI (b 3)) ((hb4 3 (by decide)).1) ?_
    refine lv_ior hx hb dX4_checkRead_20 ?_
    refine lv_to (y := nI (0 * 256 + b 3)) (or_n (by omega)) ?_
    refine lv_istore_n (lv' := [(2, .int (nI (0 * 256 + b 3))), (3, .int (nI 3)), (0, .ref h0), (1, .int (nI a))]) hx hb dX4_checkRead_21 rfl hl (by decide) rfl (fun ls hl => ?_)
    refine lv_iinc (v := nI 2) (lv' := [(3, .int (nI 2)), (2, .int (nI (0 * 256 + b 3))), (0, .ref h0), (1, .int (nI a))]) hx hb dX4_checkRead_22 hl (k := 1) rfl (rfl) (by decide) rfl (fun ls hl => ?_)
    refine lv_goto (tgt := 4) hx hb dX4_checkRead_25 (by decide) ?_
    refine lv_iload_n hx hb dX4_checkRead_4 rfl (lv_at hl 0 rfl) ?_
    refine lv_if_lt (tgt := 28) hx hb dX4_checkRead_5 (by decide) (fun c5 => ?_) (fun c5 => ?_)
    · skip
      
      exact absurd c5 (by decide)
    · skip
      
      refine lv_iload_n hx hb dX4_checkRead_8 rfl (lv_at hl 1 rfl) ?_
      refine lv_bipush (v := nI 8) hx hb dX4_checkRead_9 rfl ?_
      refine lv_ishl hx hb dX4_checkRead_11 ?_
      refine lv_to (y := nI ((0 * 256 + b 3) * 256)) (pk_shlN (n := 0 * 256 + b 3) _ 8 rfl (by omega)) ?_
      refine lv_aload_n hx hb dX4_checkRead_12 rfl (lv_at hl 2 rfl) ?_
      refine va_get (D := D) (ci := 4) (v := .ref ba) (C := RX4) (T := TX4) (N := 8) hx hb hts inX4_checkRead_X4 hown hK hP 0 rfl rfl 1 (by decide) (hts (.fieldLink RX4 11 "ScrambledLine$Reader" "bytes" "[I") (by decide +kernel)) (fun _ h9 => h9) rfl dX4_checkRead_13 ?_
      refine lv_iload_n hx hb dX4_checkRead_16 rfl (lv_at hl 3 rfl) ?_
      refine lv_iload_n hx hb dX4_checkRead_17 rfl (lv_at hl 0 rfl) ?_
      refine lv_iadd hx hb dX4_checkRead_18 ?_
      refine lv_to (y := nI (a + 2)) (nI_add a 2) ?_
      refine gl_i hx hb hK hP 1 rfl (i := (a + 2)) (by omega) (by first | decide | omega) dX4_checkRead_19 ?_
      refine lv_to (y := nI (b 2)) ((hb4 2 (by decide)).1) ?_
      refine lv_ior hx hb dX4_checkRead_20 ?_
      refine lv_to (y := nI ((0 * 256 + b 3) * 256 + b 2)) (or_n (by omega)) ?_
      refine lv_istore_n (lv' := [(2, .int (nI ((0 * 256 + b 3) * 256 + b 2))), (3, .int (nI 2)), (0, .ref h0), (1, .int (nI a))]) hx hb dX4_checkRead_21 rfl hl (by decide) rfl (fun ls hl => ?_)
      refine lv_iinc (v := nI 1) (lv' := [(3, .int (nI 1)), (2, .int (nI ((0 * 256 + b 3) * 256 + b 2))), (0, .ref h0), (1, .int (nI a))]) hx hb dX4_checkRead_22 hl (k := 1) rfl (rfl) (by decide) rfl (fun ls hl => ?_)
      refine lv_goto (tgt := 4) hx hb dX4_checkRead_25 (by decide) ?_
      refine lv_iload_n hx hb dX4_checkRead_4 rfl (lv_at hl 0 rfl) ?_
      refine lv_if_lt (tgt := 28) hx hb dX4_checkRead_5 (by decide) (fun c5 => ?_) (fun c5 => ?_)
      · skip
        
        exact absurd c5 (by decide)
      · skip
        
        refine lv_iload_n hx hb dX4_checkRead_8 rfl (lv_at hl 1 rfl) ?_
        refine lv_bipush (v := nI 8) hx hb dX4_checkRead_9 rfl ?_
        refine lv_ishl hx hb dX4_checkRead_11 ?_
        refine lv_to (y := nI (((0 * 256 + b 3) * 256 + b 2) * 256)) (pk_shlN (n := (0 * 256 + b 3) * 256 + b 2) _ 8 rfl (by omega)) ?_
        refine lv_aload_n hx hb dX4_checkRead_12 rfl (lv_at hl 2 rfl) ?_
        refine va_get (D := D) (ci := 4) (v := .ref ba) (C := RX4) (T := TX4) (N := 8) hx hb hts inX4_checkRead_X4 hown hK hP 0 rfl rfl 1 (by decide) (hts (.fieldLink RX4 11 "ScrambledLine$Reader" "bytes" "[I") (by decide +kernel)) (fun _ h9 => h9) rfl dX4_checkRead_13 ?_
        refine lv_iload_n hx hb dX4_checkRead_16 rfl (lv_at hl 3 rfl) ?_
        refine lv_iload_n hx hb dX4_checkRead_17 rfl (lv_at hl 0 rfl) ?_
        refine lv_iadd hx hb dX4_checkRead_18 ?_
        refine lv_to (y := nI (a + 1)) (nI_add a 1) ?_
        refine gl_i hx hb hK hP 1 rfl (i := (a + 1)) (by omega) (by first | decide | omega) dX4_checkRead_19 ?_
        refine lv_to (y := nI (b 1)) ((hb4 1 (by decide)).1) ?_
        refine lv_ior hx hb dX4_checkRead_20 ?_
        refine lv_to (y := nI (((0 * 256 + b 3) * 256 + b 2) * 256 + b 1)) (or_n (by omega)) ?_
        refine lv_istore_n (lv' := [(2, .int (nI (((0 * 256 + b 3) * 256 + b 2) * 256 + b 1))), (3, .int (nI 1)), (0, .ref h0), (1, .int (nI a))]) hx hb dX4_checkRead_21 rfl hl (by decide) rfl (fun ls hl => ?_)
        refine lv_iinc (v := nI 0) (lv' := [(3, .int (nI 0)), (2, .int (nI (((0 * 256 + b 3) * 256 + b 2) * 256 + b 1))), (0, .ref h0), (1, .int (nI a))]) hx hb dX4_checkRead_22 hl (k := 1) rfl (rfl) (by decide) rfl (fun ls hl => ?_)
        refine lv_goto (tgt := 4) hx hb dX4_checkRead_25 (by decide) ?_
        refine lv_iload_n hx hb dX4_checkRead_4 rfl (lv_at hl 0 rfl) ?_
        refine lv_if_lt (tgt := 28) hx hb dX4_checkRead_5 (by decide) (fun c5 => ?_) (fun c5 => ?_)
        · skip
          
          exact absurd c5 (by decide)
        · skip
          
          refine lv_iload_n hx hb dX4_checkRead_8 rfl (lv_at hl 1 rfl) ?_
          refine lv_bipush (v := nI 8) hx hb dX4_checkRead_9 rfl ?_
          refine lv_ishl hx hb dX4_checkRead_11 ?_
          refine lv_to (y := nI ((((0 * 256 + b 3) * 256 + b 2) * 256 + b 1) * 256)) (pk_shlN (n := ((0 * 256 + b 3) * 256 + b 2) * 256 + b 1) _ 8 rfl (by omega)) ?_
          refine lv_aload_n hx hb dX4_checkRead_12 rfl (lv_at hl 2 rfl) ?_
          refine va_get (D := D) (ci := 4) (v := .ref ba) (C := RX4) (T := TX4) (N := 8) hx hb hts inX4_checkRead_X4 hown hK hP 0 rfl rfl 1 (by decide) (hts (.fieldLink RX4 11 "ScrambledLine$Reader" "bytes" "[I") (by decide +kernel)) (fun _ h9 => h9) rfl dX4_checkRead_13 ?_
          refine lv_iload_n hx hb dX4_checkRead_16 rfl (lv_at hl 3 rfl) ?_
          refine lv_iload_n hx hb dX4_checkRead_17 rfl (lv_at hl 0 rfl) ?_
          refine lv_iadd hx hb dX4_checkRead_18 ?_
          refine lv_to (y := nI (a + 0)) (nI_add a 0) ?_
          refine gl_i hx hb hK hP 1 rfl (i := (a + 0)) (by omega) (by first | decide | omega) dX4_checkRead_19 ?_
          refine lv_to (y := nI (b 0)) ((hb4 0 (by decide)).1) ?_
          refine lv_ior hx hb dX4_checkRead_20 ?_
          refine lv_to (y := nI ((((0 * 256 + b 3) * 256 + b 2) * 256 + b 1) * 256 + b 0)) (or_n (by omega)) ?_
          refine lv_istore_n (lv' := [(2, .int (nI ((((0 * 256 + b 3) * 256 + b 2) * 256 + b 1) * 256 + b 0))), (3, .int (nI 0)), (0, .ref h0), (1, .int (nI a))]) hx hb dX4_checkRead_21 rfl hl (by decide) rfl (fun ls hl => ?_)
          refine lv_iinc (v := (-1)) (lv' := [(3, .int (-1)), (2, .int (nI ((((0 * 256 + b 3) * 256 + b 2) * 256 + b 1) * 256 + b 0))), (0, .ref h0), (1, .int (nI a))]) hx hb dX4_checkRead_22 hl (k := 1) rfl (rfl) (by decide) rfl (fun ls hl => ?_)
          refine lv_goto (tgt := 4) hx hb dX4_checkRead_25 (by decide) ?_
          refine lv_iload_n hx hb dX4_checkRead_4 rfl (lv_at hl 0 rfl) ?_
          refine lv_if_lt (tgt := 28) hx hb dX4_checkRead_5 (by decide) (fun c5 => ?_) (fun c5 => ?_)
          · skip
            
            refine lv_iload_n hx hb dX4_checkRead_28 rfl (lv_at hl 1 rfl) ?_
            refine W_q hQ ?_
            exact rt_i () hx hb hr hlocks dX4_checkRead_29 hS hP hD rfl
          · skip
            
            exact absurd c5 (by decide)

theorem inX4_judge_X4 : ∀ w ∈ u_ws RX4 TX4 8, w ∈ wsX4_judge := by decide +kernel
set_option maxHeartbeats 4000000 in
set_option maxRecDepth 100000 in
theorem c_X4_judge (l : Launch) (D : va_G) (cI cG : ClassId) (tt : Nat × Nat × Nat) (sz : Nat) (h0 : Nat) (ba : Nat) (tgt : Nat) (nb : Nat) (g : Int32) (gb : Int32) (st : Bool) (fa : Bool) (bt : Bool) (bf : Nat → Int32) (nf : Nat → Nat) (ht : tgt < 256) (hnb : nb ≤ 80) (hB : RB bf nb nf) : Met l yX4_judge wsX4_judge ({ frames := 2, cells := 0, slots := 0, locals := 34 }) (PC D cI cG tt [.ref h0] [(h0, .inr (4, [.int (nI tgt), .ref ba, .int (nI nb), .int g, .int gb, .int (bI st), .int (bI fa), .int (bI bt)])), (ba, .inl (cI, 40, .inl bf))] sz) (QI (fun (r : Int32) (u : Unit) => r = nI (jdg tgt st fa nb nf)) (fun (u : Unit) => [(h0, .inr (4, [.int (nI tgt), .ref ba, .int (nI nb), .int g, .int gb, .int (bI st), .int (bI fa), .int (bI bt)])), (ba, .inl (cI, 40, .inl bf))]) D (va_A [(h0, .inr (4, [.int (nI tgt), .ref ba, .int (nI nb), .int g, .int gb, .int (bI st), .int (bI fa), .int (bI bt)])), (ba, .inl (cI, 40, .inl bf))] sz)) 0 0 (va_A [(h0, .inr (4, [.int (nI tgt), .ref ba, .int (nI nb), .int g, .int gb, .int (bI st), .int (bI fa), .int (bI bt)])), (ba, .inl (cI, 40, .inl bf))] sz) := by
  refine ct_of (y := yX4_judge) (cc := cX4_judge) (maxL := 2) (ret := (some .int)) (Qf := QI (fun (r : Int32) (u : Unit) => r = nI (jdg tgt st fa nb nf)) (fun (u : Unit) => [(h0, .inr (4, [.int (nI tgt), .ref ba, .int (nI nb), .int g, .int gb, .int (bI st), .int (bI fa), .int (bI bt)])), (ba, .inl (cI, 40, .inl bf))]) D) (by decide) rfl ?_
  intro p e s m args below meth c A Q R H locs hR hQ hx hb hml hr hts hown hlocks hin hP hD hE hT hA hS
  have hK := hE.1
  have hl := lv_entry ([.ref h0]) (n := 2) (Nat.le_of_ble_eq_true rfl)
  rw [lg_entry_eq]
  generalize (lg_sl ([.ref h0]) ++ List.replicate (2 - (lg_sl ([.ref h0])).length) Slot.unset).toArray = ls at hl ⊢
  have hl : lv_has ls 2 [(0, .ref h0)] := hl
  refine lv_aload_n hx hb dX4_judge_0 rfl (lv_at hl 0 rfl) ?_
  refine va_get (D := D) (ci := 4) (v := .int (nI nb)) (C := RX4) (T := TX4) (N := 8) hx hb hts inX4_judge_X4 hown hK hP 0 rfl rfl 2 (by decide) (hts (.fieldLink RX4 15 "ScrambledLine$Reader" "nibbles" "I") (by decide +kernel)) (fun _ h9 => h9) rfl dX4_judge_1 ?_
  refine lv_iconst (v := nI 2) hx hb dX4_judge_4 rfl ?_
  refine lv_idiv hx hb dX4_judge_5 (by decide) ?_
  refine lv_to (y := nI (nb / 2)) (pk_div (by omega) (by decide) (by decide)) ?_
  refine lv_istore_n (lv' := [(1, .int (nI (nb / 2))), (0, .ref h0)]) hx hb dX4_judge_6 rfl hl (by decide) rfl (fun ls hl => ?_)
  refine lv_aload_n hx hb dX4_judge_7 rfl (lv_at hl 1 rfl) ?_
  refine va_get (D := D) (ci := 4) (v := .int (bI st)) (C := RX4) (T := TX4) (N := 8) hx hb hts inX4_judge_X4 hown hK hP 0 rfl rfl 5 (by decide) (hts (.fieldLink RX4 25 "ScrambledLine$Reader" "started" "Z") (by decide +kernel)) (fun _ h9 => h9) rfl dX4_judge_8 ?_
  refine lv_if_ne (tgt := 16) hx hb dX4_judge_11 (by decide) (fun c11 => ?_) (fun c11 => ?_)
  · skip
    have k11 : st = true := bI_t c11
    refine lv_aload_n hx hb dX4_judge_16 rfl (lv_at hl 1 rfl) ?_
    refine va_get (D := D) (ci := 4) (v := .int (bI fa)) (C := RX4) (T := TX4) (N := 8) hx hb hts inX4_judge_X4 hown hK hP 0 rfl rfl 6 (by decide) (hts (.fieldLink RX4 29 "ScrambledLine$Reader" "fault" "Z") (by decide +kernel)) (fun _ h9 => h9) rfl dX4_judge_17 ?_
    refine lv_if_eq (tgt := 25) hx hb dX4_judge_20 (by decide) (fun c20 => ?_) (fun c20 => ?_)
    · skip
      have k20 : fa = false := bI_f c20
      refine lv_aload_n hx hb dX4_judge_25 rfl (lv_at hl 1 rfl) ?_
      refine va_get (D := D) (ci := 4) (v := .int (nI nb)) (C := RX4) (T := TX4) (N := 8) hx hb hts inX4_judge_X4 hown hK hP 0 rfl rfl 2 (by decide) (hts (.fieldLink RX4 15 "ScrambledLine$Reader" "nibbles" "I") (by decide +kernel)) (fun _ h9 => h9) rfl dX4_judge_26 ?_
      refine lv_iconst (v := nI 2) hx hb dX4_judge_29 rfl ?_
      refine lv_irem hx hb dX4_judge_30 (by decide) ?_
      refine lv_to (y := nI (nb % 2)) (pk_rem (by omega) (by decide) (by decide)) ?_
      refine lv_if_eq (tgt := 36) hx hb dX4_judge_31 (by decide) (fun c31 => ?_) (fun c31 => ?_)
      · skip
        have k31 : (nb % 2) = 0 := (nI_eq (a := (nb % 2)) (b := 0) (by omega) (by omega)).mp c31
        refine lv_iload_n hx hb dX4_judge_36 rfl (lv_at hl 0 rfl) ?_
        refine lv_bipush (v := nI 13) hx hb dX4_judge_37 rfl ?_
        refine lv_icmp_ge (tgt := 44) hx hb dX4_judge_39 (by decide) (fun c39 => ?_) (fun c39 => ?_)
        · skip
          have k39 : 13 ≤ (nb / 2) := (nI_leI (a := 13) (b := (nb / 2)) (by omega) (by omega)).mp c39
          have hev : nb % 2 = 0 := by omega
          have hby : ∀ i, i < nb / 2 → bf i = nI (byt nf i) ∧ byt nf i < 256 := fun i hi => ⟨RB_at hB (by omega), byt_lt hB.2 (by omega)⟩
          refine lv_aload_n hx hb dX4_judge_44 rfl (lv_at hl 1 rfl) ?_
          refine lv_iload_n hx hb dX4_judge_45 rfl (lv_at hl 0 rfl) ?_
          refine lv_iconst (v := nI 4) hx hb dX4_judge_46 rfl ?_
          refine lv_isub hx hb dX4_judge_47 ?_
          refine lv_to (y := nI ((nb / 2) - 4)) (pk_sub (a := (nb / 2)) (b := 4) (by omega)) ?_
          refine ca_i (wr := []) (ru_V (As := [.int (nI ((nb / 2) - 4))]) (rest := []) ⟨hx, hb, hml, hown, hts⟩ (c_X4_checkRead l D cI cG tt H.size h0 ba tgt nb g gb st fa bt bf ((nb / 2) - 4) (fun k => byt nf (nb / 2 - 4 + k)) (by omega) (fun k hk => hby (nb / 2 - 4 + k) (by omega))) (cwV 1 hts gX4_judge_X4_checkRead rfl rfl rfl (by decide +kernel) ⟨by rw [hR]; exact Nat.le_of_ble_eq_true rfl, by rw [hR]; exact Nat.le_of_ble_eq_true rfl⟩) hP hD hE hT hS hA [0, 1] rfl (by decide) (va_recv hK hP (ci := 4) (q0 := 0) rfl rfl) rfl hl.1 rfl (Nat.le_of_ble_eq_true rfl) dX4_judge_48 ⟨by rw [hR]; exact Nat.le_of_ble_eq_true rfl, by rw [hR]; exact Nat.le_of_ble_eq_true rfl⟩) hP hD hS hA [0, 1] [] rfl rfl (by decide) (by decide) (fun r48 u H locs hw hP hD hS => ?_)
          obtain rfl := hw
          have hP : va_P D vwCl [(h0, .inr (4, [.int (nI tgt), .ref ba, .int (nI nb), .int g, .int gb, .int (bI st), .int (bI fa), .int (bI bt)])), (ba, .inl (cI, 40, .inl bf))] H := hP
          have hD : va_D A [(h0, .inr (4, [.int (nI tgt), .ref ba, .int (nI nb), .int g, .int gb, .int (bI st), .int (bI fa), .int (bI bt)])), (ba, .inl (cI, 40, .inl bf))] := hD
          refine lv_aload_n hx hb dX4_judge_51 rfl (lv_at hl 1 rfl) ?_
          refine va_get (D := D) (ci := 4) (v := .ref ba) (C := RX4) (T := TX4) (N := 8) hx hb hts inX4_judge_X4 hown hK hP 0 rfl rfl 1 (by decide) (hts (.fieldLink RX4 11 "ScrambledLine$Reader" "bytes" "[I") (by decide +kernel)) (fun _ h9 => h9) rfl dX4_judge_52 ?_
          refine lv_iload_n hx hb dX4_judge_55 rfl (lv_at hl 0 rfl) ?_
          refine lv_iconst (v := nI 4) hx hb dX4_judge_56 rfl ?_
          refine lv_isub hx hb dX4_judge_57 ?_
          refine lv_to (y := nI ((nb / 2) - 4)) (pk_sub (a := (nb / 2)) (b := 4) (by omega)) ?_
          refine ca_i (wr := [(h0, .inr (4, [.int (nI tgt), .ref ba, .int (nI nb), .int g, .int gb, .int (bI st), .int (bI fa), .int (bI bt)]))]) (ru_SN (As := [.ref ba, .int (nI ((nb / 2) - 4))]) (rest := [.int (nI ((((0 * 256 + (fun k => byt nf (nb / 2 - 4 + k)) 3) * 256 + (fun k => byt nf (nb / 2 - 4 + k)) 2) * 256 + (fun k => byt nf (nb / 2 - 4 + k)) 1) * 256 + (fun k => byt nf (nb / 2 - 4 + k)) 0))]) ⟨hx, hb, hml, hown, hts⟩ (c_X7_checkOf l D cI cG tt H.size ba 40 bf ((nb / 2) - 4) (by omega) (by omega)) ⟨va_cnB 2 hts gX4_judge_X7_checkOf_n59 rfl rfl rfl (hE.2.1.mX4_59) (hts (.initialized RX7) (by decide +kernel)) (by decide +kernel) ⟨by rw [hR]; exact Nat.le_of_ble_eq_true rfl, by rw [hR]; exact Nat.le_of_ble_eq_true rfl⟩, hts (.static yX7_checkOf) (by decide +kernel), trivial⟩ hP hD hE hT hS hA [1] rfl (by decide) rfl hl.1 rfl (Nat.le_of_ble_eq_true rfl) dX4_judge_58 ⟨by rw [hR]; exact Nat.le_of_ble_eq_true rfl, by rw [hR]; exact Nat.le_of_ble_eq_true rfl⟩) hP hD hS hA [1] [0] rfl rfl (by decide) (by decide) (fun r58 u H locs hw hP hD hS => ?_)
          obtain rfl := hw
          have hP : va_P D vwCl [(h0, .inr (4, [.int (nI tgt), .ref ba, .int (nI nb), .int g, .int gb, .int (bI st), .int (bI fa), .int (bI bt)])), (ba, .inl (cI, 40, .inl bf))] H := hP
          have hD : va_D A [(h0, .inr (4, [.int (nI tgt), .ref ba, .int (nI nb), .int g, .int gb, .int (bI st), .int (bI fa), .int (bI bt)])), (ba, .inl (cI, 40, .inl bf))] := hD
          refine lv_to (y := rcv nf (nb / 2)) (rcv_c hby) ?_
          refine lv_icmp_eq (tgt := 66) hx hb dX4_judge_61 (by decide) (fun c61 => ?_) (fun c61 => ?_)
          · skip
            have k61 : ckOK nf (nb / 2) = true := (ck_iff (hby _ (by omega)).2 (hby _ (by omega)).2 (hby _ (by omega)).2 (hby _ (by omega)).2).mp c61
            refine lv_aload_n hx hb dX4_judge_66 rfl (lv_at hl 1 rfl) ?_
            refine va_get (D := D) (ci := 4) (v := .ref ba) (C := RX4) (T := TX4) (N := 8) hx hb hts inX4_judge_X4 hown hK hP 0 rfl rfl 1 (by decide) (hts (.fieldLink RX4 11 "ScrambledLine$Reader" "bytes" "[I") (by decide +kernel)) (fun _ h9 => h9) rfl dX4_judge_67 ?_
            refine lv_iconst (v := nI 2) hx hb dX4_judge_70 rfl ?_
            refine gl_i hx hb hK hP 1 rfl (i := 2) (by omega) (by first | decide | omega) dX4_judge_71 ?_
            refine lv_to (y := nI (byt nf 2)) ((hby 2 (by omega)).1) ?_
            have hy2 := (hby 2 (by omega)).2
            refine lv_bipush (v := nI 24) hx hb dX4_judge_72 rfl ?_
            refine lv_icmp_gt (tgt := 90) hx hb dX4_judge_74 (by decide) (fun c74 => ?_) (fun c74 => ?_)
            · skip
              have k74 : 24 < (byt nf 2) := (nI_ltI (a := 24) (b := (byt nf 2)) (by omega) (by omega)).mp c74
              refine lv_bipush (v := nI 6) hx hb dX4_judge_90 rfl ?_
              refine W_q hQ ?_
              exact rt_i () hx hb hr hlocks dX4_judge_92 hS hP hD (jd_6 k11 k20 k31 k39 k61 (Or.inl k74))
            · skip
              have k74 : ¬ 24 < (byt nf 2) := fun zq => c74 ((nI_ltI (a := 24) (b := (byt nf 2)) (by omega) (by omega)).mpr zq)
              refine lv_iload_n hx hb dX4_judge_77 rfl (lv_at hl 0 rfl) ?_
              refine lv_aload_n hx hb dX4_judge_78 rfl (lv_at hl 1 rfl) ?_
              refine va_get (D := D) (ci := 4) (v := .ref ba) (C := RX4) (T := TX4) (N := 8) hx hb hts inX4_judge_X4 hown hK hP 0 rfl rfl 1 (by decide) (hts (.fieldLink RX4 11 "ScrambledLine$Reader" "bytes" "[I") (by decide +kernel)) (fun _ h9 => h9) rfl dX4_judge_79 ?_
              refine lv_iconst (v := nI 2) hx hb dX4_judge_82 rfl ?_
              refine gl_i hx hb hK hP 1 rfl (i := 2) (by omega) (by first | decide | omega) dX4_judge_83 ?_
              refine lv_to (y := nI (byt nf 2)) ((hby 2 (by omega)).1) ?_
              refine ca_i (wr := [(h0, .inr (4, [.int (nI tgt), .ref ba, .int (nI nb), .int g, .int gb, .int (bI st), .int (bI fa), .int (bI bt)])), (ba, .inl (cI, 40, .inl bf))]) (ru_SN (As := [.int (nI (byt nf 2))]) (rest := [.int (nI (nb / 2))]) ⟨hx, hb, hml, hown, hts⟩ (c_X7_frameSize l D cI cG tt H.size (byt nf 2) (by omega)) ⟨va_cnB 1 hts gX4_judge_X7_frameSize_n63 rfl rfl rfl (hE.2.1.mX4_63) (hts (.initialized RX7) (by decide +kernel)) (by decide +kernel) ⟨by rw [hR]; exact Nat.le_of_ble_eq_true rfl, by rw [hR]; exact Nat.le_of_ble_eq_true rfl⟩, hts (.static yX7_frameSize) (by decide +kernel), trivial⟩ hP hD hE hT hS hA [] rfl (by decide) rfl hl.1 rfl (Nat.le_of_ble_eq_true rfl) dX4_judge_84 ⟨by rw [hR]; exact Nat.le_of_ble_eq_true rfl, by rw [hR]; exact Nat.le_of_ble_eq_true rfl⟩) hP hD hS hA [] [0, 1] rfl rfl (by decide) (by decide) (fun r84 u H locs hw hP hD hS => ?_)
              obtain rfl := hw
              have hP : va_P D vwCl [(h0, .inr (4, [.int (nI tgt), .ref ba, .int (nI nb), .int g, .int gb, .int (bI st), .int (bI fa), .int (bI bt)])), (ba, .inl (cI, 40, .inl bf))] H := hP
              have hD : va_D A [(h0, .inr (4, [.int (nI tgt), .ref ba, .int (nI nb), .int g, .int gb, .int (bI st), .int (bI fa), .int (bI bt)])), (ba, .inl (cI, 40, .inl bf))] := hD
              have hfs : fsz (byt nf 2) ≤ 300 := by unfold fsz; omega
              refine lv_icmp_eq (tgt := 93) hx hb dX4_judge_87 (by decide) (fun c87 => ?_) (fun c87 => ?_)
              · skip
                have k87 : (nb / 2) = (fsz (byt nf 2) + 4) := (nI_eq (a := (nb / 2)) (b := (fsz (byt nf 2) + 4)) (by omega) (by omega)).mp c87
                refine lv_aload_n hx hb dX4_judge_93 rfl (lv_at hl 1 rfl) ?_
                refine va_get (D := D) (ci := 4) (v := .ref ba) (C := RX4) (T := TX4) (N := 8) hx hb hts inX4_judge_X4 hown hK hP 0 rfl rfl 1 (by decide) (hts (.fieldLink RX4 11 "ScrambledLine$Reader" "bytes" "[I") (by decide +kernel)) (fun _ h9 => h9) rfl dX4_judge_94 ?_
                refine lv_iconst (v := nI 0) hx hb dX4_judge_97 rfl ?_
                refine gl_i hx hb hK hP 1 rfl (i := 0) (by omega) (by first | decide | omega) dX4_judge_98 ?_
                refine lv_to (y := nI (byt nf 0)) ((hby 0 (by omega)).1) ?_
                have hy0 := (hby 0 (by omega)).2
                refine lv_aload_n hx hb dX4_judge_99 rfl (lv_at hl 1 rfl) ?_
                refine va_get (D := D) (ci := 4) (v := .int (nI tgt)) (C := RX4) (T := TX4) (N := 8) hx hb hts inX4_judge_X4 hown hK hP 0 rfl rfl 0 (by decide) (hts (.fieldLink RX4 35 "ScrambledLine$Reader" "address" "I") (by decide +kernel)) (fun _ h9 => h9) rfl dX4_judge_100 ?_
                refine lv_icmp_eq (tgt := 118) hx hb dX4_judge_103 (by decide) (fun c103 => ?_) (fun c103 => ?_)
                · skip
                  have k103 : (byt nf 0) = tgt := (nI_eq (a := (byt nf 0)) (b := tgt) (by omega) (by omega)).mp c103
                  refine lv_iconst (v := nI 0) hx hb dX4_judge_118 rfl ?_
                  refine lv_goto (tgt := 124) hx hb dX4_judge_119 (by decide) ?_
                  refine W_q hQ ?_
                  exact rt_i () hx hb hr hlocks dX4_judge_124 hS hP hD (jd_0 k11 k20 k31 k39 k61 k74 k87 (Or.inl k103))
                · skip
                  have k103 : ¬ (byt nf 0) = tgt := fun zq => c103 ((nI_eq (a := (byt nf 0)) (b := tgt) (by omega) (by omega)).mpr zq)
                  refine lv_aload_n hx hb dX4_judge_106 rfl (lv_at hl 1 rfl) ?_
                  refine va_get (D := D) (ci := 4) (v := .ref ba) (C := RX4) (T := TX4) (N := 8) hx hb hts inX4_judge_X4 hown hK hP 0 rfl rfl 1 (by decide) (hts (.fieldLink RX4 11 "ScrambledLine$Reader" "bytes" "[I") (by decide +kernel)) (fun _ h9 => h9) rfl dX4_judge_107 ?_
                  refine lv_iconst (v := nI 0) hx hb dX4_judge_110 rfl ?_
                  refine gl_i hx hb hK hP 1 rfl (i := 0) (by omega) (by first | decide | omega) dX4_judge_111 ?_
                  refine lv_to (y := nI (byt nf 0)) ((hby 0 (by omega)).1) ?_
                  refine lv_sipush (v := nI 255) hx hb dX4_judge_112 rfl ?_
                  refine lv_icmp_ne (tgt := 122) hx hb dX4_judge_115 (by decide) (fun c115 => ?_) (fun c115 => ?_)
                  · skip
                    have k115 : ¬ (byt nf 0) = 255 := fun zq => c115 ((nI_eq (a := (byt nf 0)) (b := 255) (by omega) (by omega)).mpr zq)
                    refine lv_bipush (v := nI 7) hx hb dX4_judge_122 rfl ?_
                    refine W_q hQ ?_
                    exact rt_i () hx hb hr hlocks dX4_judge_124 hS hP hD (jd_7 k11 k20 k31 k39 k61 k74 k87 k103 k115)
                  · skip
                    have k115 : (byt nf 0) = 255 := (nI_eq (a := (byt nf 0)) (b := 255) (by omega) (by omega)).mp c115
                    refine lv_iconst (v := nI 0) hx hb dX4_judge_118 rfl ?_
                    refine lv_goto (tgt := 124) hx hb dX4_judge_119 (by decide) ?_
                    refine W_q hQ ?_
                    exact rt_i () hx hb hr hlocks dX4_judge_124 hS hP hD (jd_0 k11 k20 k31 k39 k61 k74 k87 (Or.inr k115))
              · skip
                have k87 : ¬ (nb / 2) = (fsz (byt nf 2) + 4) := fun zq => c87 ((nI_eq (a := (nb / 2)) (b := (fsz (byt nf 2) + 4)) (by omega) (by omega)).mpr zq)
                refine lv_bipush (v := nI 6) hx hb dX4_judge_90 rfl ?_
                refine W_q hQ ?_
                exact rt_i () hx hb hr hlocks dX4_judge_92 hS hP hD (jd_6 k11 k20 k31 k39 k61 (Or.inr k87))
          · skip
            have k61 : ¬ ckOK nf (nb / 2) = true := fun q => c61 ((ck_iff (hby _ (by omega)).2 (hby _ (by omega)).2 (hby _ (by omega)).2 (hby _ (by omega)).2).mpr q)
            refine lv_iconst (v := nI 5) hx hb dX4_judge_64 rfl ?_
            refine W_q hQ ?_
            exact rt_i () hx hb hr hlocks dX4_judge_65 hS hP hD (jd_5 k11 k20 k31 k39 k61)
        · skip
          have k39 : ¬ 13 ≤ (nb / 2) := fun zq => c39 ((nI_leI (a := 13) (b := (nb / 2)) (by omega) (by omega)).mpr zq)
          refine lv_iconst (v := nI 4) hx hb dX4_judge_42 rfl ?_
          refine W_q hQ ?_
          exact rt_i () hx hb hr hlocks dX4_judge_43 hS hP hD (jd_4 k11 k20 k31 k39)
      · skip
        have k31 : ¬ (nb % 2) = 0 := fun zq => c31 ((nI_eq (a := (nb % 2)) (b := 0) (by omega) (by omega)).mpr zq)
        refine lv_iconst (v := nI 3) hx hb dX4_judge_34 rfl ?_
        refine W_q hQ ?_
        exact rt_i () hx hb hr hlocks dX4_judge_35 hS hP hD (jd_3 k11 k20 k31)
    · skip
      have k20 : fa = true := bI_t c20
      refine lv_iconst (v := nI 2) hx hb dX4_judge_23 rfl ?_
      refine W_q hQ ?_
      exact rt_i () hx hb hr hlocks dX4_judge_24 hS hP hD (jd_2 k11 k20)
  · skip
    have k11 : st = false := bI_f c11
    refine lv_iconst (v := nI 1) hx hb dX4_judge_14 rfl ?_
    refine W_q hQ ?_
    exact rt_i () hx hb hr hlocks dX4_judge_15 hS hP hD (jd_1 k11)

theorem inX4_takeGroup_X4 : ∀ w ∈ u_ws RX4 TX4 8, w ∈ wsX4_takeGroup := by decide +kernel
set_option maxHeartbeats 4000000 in
set_option maxRecDepth 100000 in
theorem c_X4_takeGroup (l : Launch) (D : va_G) (cI cG : ClassId) (tt : Nat × Nat × Nat) (sz : Nat) (h0 : Nat) (ba : Nat) (tgt : Nat) (nb : Nat) (g : Int32) (gb : Int32) (st : Bool) (fa : Bool) (bt : Bool) (bf : Nat → Int32) (nf : Nat → Nat) (w : Nat) (ht : tgt < 256) (hnb : nb < 80) (hB : RB bf nb nf) (hw : w < 32) : Met l yX4_takeGroup wsX4_takeGroup ({ frames := 3, cells := 0, slots := 0, locals := 55 }) (PC D cI cG tt [.ref h0, .int (nI w)] [(h0, .inr (4, [.int (nI tgt), .ref ba, .int (nI nb), .int g, .int gb, .int (bI st), .int (bI fa), .int (bI bt)])), (ba, .inl (cI, 40, .inl bf))] sz) (QI (fun (r : Int32) (u : Bool × Bool × Bool × Nat × (Nat → Nat) × (Nat → Int32)) => match u with | (st2, fa2, bt2, nb2, nf2, bf2) => r = tgR tgt w (st, fa, bt, nb, nf) ∧ (st2, fa2, bt2, nb2, nf2) = tgS w (st, fa, bt, nb, nf) ∧ RB bf2 nb2 nf2) (fun (u : Bool × Bool × Bool × Nat × (Nat → Nat) × (Nat → Int32)) => match u with | (st2, fa2, bt2, nb2, nf2, bf2) => [(h0, .inr (4, [.int (nI tgt), .ref ba, .int (nI nb2), .int g, .int gb, .int (bI st2), .int (bI fa2), .int (bI bt2)])), (ba, .inl (cI, 40, .inl bf2))]) D (va_A [(h0, .inr (4, [.int (nI tgt), .ref ba, .int (nI nb), .int g, .int gb, .int (bI st), .int (bI fa), .int (bI bt)])), (ba, .inl (cI, 40, .inl bf))] sz)) 0 0 (va_A [(h0, .inr (4, [.int (nI tgt), .ref ba, .int (nI nb), .int g, .int gb, .int (bI st), .int (bI fa), .int (bI bt)])), (ba, .inl (cI, 40, .inl bf))] sz) := by
  refine ct_of (y := yX4_takeGroup) (cc := cX4_takeGroup) (maxL := 2) (ret := (some .int)) (Qf := QI (fun (r : Int32) (u : Bool × Bool × Bool × Nat × (Nat → Nat) × (Nat → Int32)) => match u with | (st2, fa2, bt2, nb2, nf2, bf2) => r = tgR tgt w (st, fa, bt, nb, nf) ∧ (st2, fa2, bt2, nb2, nf2) = tgS w (st, fa, bt, nb, nf) ∧ RB bf2 nb2 nf2) (fun (u : Bool × Bool × Bool × Nat × (Nat → Nat) × (Nat → Int32)) => match u with | (st2, fa2, bt2, nb2, nf2, bf2) => [(h0, .inr (4, [.int (nI tgt), .ref ba, .int (nI nb2), .int g, .int gb, .int (bI st2), .int (bI fa2), .int (bI bt2)])), (ba, .inl (cI, 40, .inl bf2))]) D) (by decide) rfl ?_
  intro p e s m args below meth c A Q R H locs hR hQ hx hb hml hr hts hown hlocks hin hP hD hE hT hA hS
  have hK := hE.1
  have hl := lv_entry ([.ref h0, .int (nI w)]) (n := 2) (Nat.le_of_ble_eq_true rfl)
  rw [lg_entry_eq]
  generalize (lg_sl ([.ref h0, .int (nI w)]) ++ List.replicate (2 - (lg_sl ([.ref h0, .int (nI w)])).length) Slot.unset).toArray = ls at hl ⊢
  have hl : lv_has ls 2 [(0, .ref h0), (1, .int (nI w))] := hl
  refine lv_aload_n hx hb dX4_takeGroup_0 rfl (lv_at hl 0 rfl) ?_
  refine va_get (D := D) (ci := 4) (v := .int (bI bt)) (C := RX4) (T := TX4) (N := 8) hx hb hts inX4_takeGroup_X4 hown hK hP 0 rfl rfl 7 (by decide) (hts (.fieldLink RX4 32 "ScrambledLine$Reader" "behindT" "Z") (by decide +kernel)) (fun _ h9 => h9) rfl dX4_takeGroup_1 ?_
  refine lv_if_eq (tgt := 23) hx hb dX4_takeGroup_4 (by decide) (fun c4 => ?_) (fun c4 => ?_)
  · skip
    have k4 : bt = false := bI_f c4
    refine lv_iload_n hx hb dX4_takeGroup_23 rfl (lv_at hl 1 rfl) ?_
    refine lv_bipush (v := nI 31) hx hb dX4_takeGroup_24 rfl ?_
    refine lv_icmp_ne (tgt := 32) hx hb dX4_takeGroup_26 (by decide) (fun c26 => ?_) (fun c26 => ?_)
    · skip
      have k26 : ¬ w = 31 := fun zq => c26 ((nI_eq (a := w) (b := 31) (by omega) (by omega)).mpr zq)
      refine lv_iload_n hx hb dX4_takeGroup_32 rfl (lv_at hl 1 rfl) ?_
      refine lv_bipush (v := nI 13) hx hb dX4_takeGroup_33 rfl ?_
      refine lv_icmp_ne (tgt := 46) hx hb dX4_takeGroup_35 (by decide) (fun c35 => ?_) (fun c35 => ?_)
      · skip
        have k35 : ¬ w = 13 := fun zq => c35 ((nI_eq (a := w) (b := 13) (by omega) (by omega)).mpr zq)
        refine lv_aload_n hx hb dX4_takeGroup_46 rfl (lv_at hl 0 rfl) ?_
        refine va_getsN hx hb (C := RX7) (n := "NIBBLE_OF_GROUP") (d := "[I") (ref := "ScrambledLine") hT.2.1.1 hS hown (hE.2.1.fX4_46) (fun _ h9 => h9) dX4_takeGroup_47 ?_
        refine lv_iload_n hx hb dX4_takeGroup_50 rfl (lv_at hl 1 rfl) ?_
        refine lv_bipush (v := nI 31) hx hb dX4_takeGroup_51 rfl ?_
        refine lv_iand hx hb dX4_takeGroup_53 ?_
        refine lv_to (y := nI w) ((pk_andN (by omega) 5 rfl).trans (congrArg nI (Nat.mod_eq_of_lt hw))) ?_
        refine gt_i hx hb hT.2.1.2 hS (i := w) (by omega) (by decide) dX4_takeGroup_54 ?_
        refine lv_to (y := nbI (nN w)) (tabN_at w hw) ?_
        refine ca_v (wr := []) (ru_V (As := [.int (nbI (nN w))]) (rest := []) ⟨hx, hb, hml, hown, hts⟩ (c_X4_takeNibble l D cI cG tt H.size h0 ba tgt nb g gb st fa bt bf nf (nN w) (by omega) hB (nN_le w hw)) (cwV 1 hts gX4_takeGroup_X4_takeNibble rfl rfl rfl (by decide +kernel) ⟨by rw [hR]; exact Nat.le_of_ble_eq_true rfl, by rw [hR]; exact Nat.le_of_ble_eq_true rfl⟩) hP hD hE hT hS hA [0, 1] rfl (by decide) (va_recv hK hP (ci := 4) (q0 := 0) rfl rfl) rfl hl.1 rfl (Nat.le_of_ble_eq_true rfl) dX4_takeGroup_55 ⟨by rw [hR]; exact Nat.le_of_ble_eq_true rfl, by rw [hR]; exact Nat.le_of_ble_eq_true rfl⟩) hP hD hS hA [0, 1] [] rfl rfl (by decide) (by decide) (fun u H locs hw hP hD hS => ?_)
        obtain ⟨st2_55, fa2_55, nb2_55, bf2_55⟩ := u
        obtain ⟨e1_55, e2_55, e3_55, hB2_55⟩ := hw
        have hP : va_P D vwCl [(h0, .inr (4, [.int (nI tgt), .ref ba, .int (nI nb2_55), .int g, .int gb, .int (bI st2_55), .int (bI fa2_55), .int (bI bt)])), (ba, .inl (cI, 40, .inl bf2_55))] H := hP
        have hD : va_D A [(h0, .inr (4, [.int (nI tgt), .ref ba, .int (nI nb2_55), .int g, .int gb, .int (bI st2_55), .int (bI fa2_55), .int (bI bt)])), (ba, .inl (cI, 40, .inl bf2_55))] := hD
        refine lv_iconst (v := (-1)) hx hb dX4_takeGroup_58 rfl ?_
        refine W_q hQ ?_
        exact rt_i (st2_55, fa2_55, bt, nb2_55, tkV (nN w) st nb nf, bf2_55) hx hb hr hlocks dX4_takeGroup_59 hS hP hD (tg_n k4 k26 k35 e1_55 e2_55 e3_55 hB2_55)
      · skip
        have k35 : w = 13 := (nI_eq (a := w) (b := 13) (by omega) (by omega)).mp c35
        refine lv_aload_n hx hb dX4_takeGroup_38 rfl (lv_at hl 0 rfl) ?_
        refine lv_iconst (v := nI 1) hx hb dX4_takeGroup_39 rfl ?_
        refine va_put (D := D) (ci := 4) (v := .int (nI 1)) (ty := .boolean) (C := RX4) (T := TX4) (N := 8) hx hb hts inX4_takeGroup_X4 tyX4 tyX4_ok nmX4 hown hK hP hD hS 0 rfl rfl 7 (by decide) (hts (.fieldLink RX4 32 "ScrambledLine$Reader" "behindT" "Z") (by decide +kernel)) (fun _ h9 => h9) rfl (by decide +kernel) rfl rfl (Nat.le_of_ble_eq_true rfl) dX4_takeGroup_40 (fun H locs hP hD hS => ?_)
        have hP : va_P D vwCl [(h0, .inr (4, [.int (nI tgt), .ref ba, .int (nI nb), .int g, .int gb, .int (bI st), .int (bI fa), .int (nI 1)])), (ba, .inl (cI, 40, .inl bf))] H := hP
        have hD : va_D A [(h0, .inr (4, [.int (nI tgt), .ref ba, .int (nI nb), .int g, .int gb, .int (bI st), .int (bI fa), .int (nI 1)])), (ba, .inl (cI, 40, .inl bf))] := hD
        refine lv_goto (tgt := 58) hx hb dX4_takeGroup_43 (by decide) ?_
        refine lv_iconst (v := (-1)) hx hb dX4_takeGroup_58 rfl ?_
        refine W_q hQ ?_
        exact rt_i (st, fa, true, nb, nf, bf) hx hb hr hlocks dX4_takeGroup_59 hS hP hD (tg_13 k4 k26 k35 hB)
    · skip
      have k26 : w = 31 := (nI_eq (a := w) (b := 31) (by omega) (by omega)).mp c26
      refine lv_bipush (v := nI 8) hx hb dX4_takeGroup_29 rfl ?_
      refine W_q hQ ?_
      exact rt_i (st, fa, bt, nb, nf, bf) hx hb hr hlocks dX4_takeGroup_31 hS hP hD (tg_31 k4 k26 hB)
  · skip
    have k4 : bt = true := bI_t c4
    refine lv_iload_n hx hb dX4_takeGroup_7 rfl (lv_at hl 1 rfl) ?_
    refine lv_bipush (v := nI 7) hx hb dX4_takeGroup_8 rfl ?_
    refine lv_icmp_ne (tgt := 20) hx hb dX4_takeGroup_10 (by decide) (fun c10 => ?_) (fun c10 => ?_)
    · skip
      have k10 : ¬ w = 7 := fun zq => c10 ((nI_eq (a := w) (b := 7) (by omega) (by omega)).mpr zq)
      refine lv_bipush (v := nI 9) hx hb dX4_takeGroup_20 rfl ?_
      refine W_q hQ ?_
      exact rt_i (st, fa, bt, nb, nf, bf) hx hb hr hlocks dX4_takeGroup_22 hS hP hD (tg_9 k4 k10 hB)
    · skip
      have k10 : w = 7 := (nI_eq (a := w) (b := 7) (by omega) (by omega)).mp c10
      refine lv_aload_n hx hb dX4_takeGroup_13 rfl (lv_at hl 0 rfl) ?_
      refine ca_i (wr := []) (ru_V (As := []) (rest := []) ⟨hx, hb, hml, hown, hts⟩ (c_X4_judge l D cI cG tt H.size h0 ba tgt nb g gb st fa bt bf nf (by omega) (by omega) hB) (cwV 0 hts gX4_takeGroup_X4_judge rfl rfl rfl (by decide +kernel) ⟨by rw [hR]; exact Nat.le_of_ble_eq_true rfl, by rw [hR]; exact Nat.le_of_ble_eq_true rfl⟩) hP hD hE hT hS hA [0, 1] rfl (by decide) (va_recv hK hP (ci := 4) (q0 := 0) rfl rfl) rfl hl.1 rfl (Nat.le_of_ble_eq_true rfl) dX4_takeGroup_14 ⟨by rw [hR]; exact Nat.le_of_ble_eq_true rfl, by rw [hR]; exact Nat.le_of_ble_eq_true rfl⟩) hP hD hS hA [0, 1] [] rfl rfl (by decide) (by decide) (fun r14 u H locs hw hP hD hS => ?_)
      obtain rfl := hw
      have hP : va_P D vwCl [(h0, .inr (4, [.int (nI tgt), .ref ba, .int (nI nb), .int g, .int gb, .int (bI st), .int (bI fa), .int (bI bt)])), (ba, .inl (cI, 40, .inl bf))] H := hP
      have hD : va_D A [(h0, .inr (4, [.int (nI tgt), .ref ba, .int (nI nb), .int g, .int gb, .int (bI st), .int (bI fa), .int (bI bt)])), (ba, .inl (cI, 40, .inl bf))] := hD
      refine lv_goto (tgt := 22) hx hb dX4_takeGroup_17 (by decide) ?_
      refine W_q hQ ?_
      exact rt_i (st, fa, bt, nb, nf, bf) hx hb hr hlocks dX4_takeGroup_22 hS hP hD (tg_r k4 k10 hB)

theorem inX4_takeBit_X4 : ∀ w ∈ u_ws RX4 TX4 8, w ∈ wsX4_takeBit := by decide +kernel
set_option maxHeartbeats 4000000 in
set_option maxRecDepth 100000 in
theorem c_X4_takeBit_in (l : Launch) (D : va_G) (cI cG : ClassId) (tt : Nat × Nat × Nat) (sz : Nat) (h0 : Nat) (ba : Nat) (tgt : Nat) (nb : Nat) (g : Nat) (gb : Nat) (st : Bool) (fa : Bool) (bt : Bool) (b : Nat) (hg : g < 32) (hgb : gb < 4) (hb0 : b < 2) : Met l yX4_takeBit wsX4_takeBit ({ frames := 4, cells := 0, slots := 0, locals := 76 }) (PC D cI cG tt [.ref h0, .int (nI b)] [(h0, .inr (4, [.int (nI tgt), .ref ba, .int (nI nb), .int (nI g), .int (nI gb), .int (bI st), .int (bI fa), .int (bI bt)]))] sz) (QI (fun (r : Int32) (u : Unit) => r = (-1)) (fun (u : Unit) => [(h0, .inr (4, [.int (nI tgt), .ref ba, .int (nI nb), .int (nI (2 * g + b)), .int (nI (gb + 1)), .int (bI st), .int (bI fa), .int (bI bt)]))]) D (va_A [(h0, .inr (4, [.int (nI tgt), .ref ba, .int (nI nb), .int (nI g), .int (nI gb), .int (bI st), .int (bI fa), .int (bI bt)]))] sz)) 0 0 (va_A [(h0, .inr (4, [.int (nI tgt), .ref ba, .int (nI nb), .int (nI g), .int (nI gb), .int (bI st), .int (bI fa), .int (bI bt)]))] sz) := by
  refine ct_of (y := yX4_takeBit) (cc := cX4_takeBit) (maxL := 3) (ret := (some .int)) (Qf := QI (fun (r : Int32) (u : Unit) => r = (-1)) (fun (u : Unit) => [(h0, .inr (4, [.int (nI tgt), .ref ba, .int (nI nb), .int (nI (2 * g + b)), .int (nI (gb + 1)), .int (bI st), .int (bI fa), .int (bI bt)]))]) D) (by decide) rfl ?_
  intro p e s m args below meth c A Q R H locs hR hQ hx hb hml hr hts hown hlocks hin hP hD hE hT hA hS
  have hK := hE.1
  have hl := lv_entry ([.ref h0, .int (nI b)]) (n := 3) (Nat.le_of_ble_eq_true rfl)
  rw [lg_entry_eq]
  generalize (lg_sl ([.ref h0, .int (nI b)]) ++ List.replicate (3 - (lg_sl ([.ref h0, .int (nI b)])).length) Slot.unset).toArray = ls at hl ⊢
  have hl : lv_has ls 3 [(0, .ref h0), (1, .int (nI b))] := hl
  refine lv_aload_n hx hb dX4_takeBit_0 rfl (lv_at hl 0 rfl) ?_
  refine lv_iconst (v := nI 2) hx hb dX4_takeBit_1 rfl ?_
  refine lv_aload_n hx hb dX4_takeBit_2 rfl (lv_at hl 0 rfl) ?_
  refine va_get (D := D) (ci := 4) (v := .int (nI g)) (C := RX4) (T := TX4) (N := 8) hx hb hts inX4_takeBit_X4 hown hK hP 0 rfl rfl 3 (by decide) (hts (.fieldLink RX4 19 "ScrambledLine$Reader" "group" "I") (by decide +kernel)) (fun _ h9 => h9) rfl dX4_takeBit_3 ?_
  refine lv_imul hx hb dX4_takeBit_6 ?_
  refine lv_to (y := nI (2 * g)) (pk_mul 2 g) ?_
  refine lv_iload_n hx hb dX4_takeBit_7 rfl (lv_at hl 1 rfl) ?_
  refine lv_iadd hx hb dX4_takeBit_8 ?_
  refine lv_to (y := nI ((2 * g) + b)) (nI_add (2 * g) b) ?_
  refine va_put (D := D) (ci := 4) (v := .int (nI ((2 * g) + b))) (ty := .int) (C := RX4) (T := TX4) (N := 8) hx hb hts inX4_takeBit_X4 tyX4 tyX4_ok nmX4 hown hK hP hD hS 0 rfl rfl 3 (by decide) (hts (.fieldLink RX4 19 "ScrambledLine$Reader" "group" "I") (by decide +kernel)) (fun _ h9 => h9) rfl (by decide +kernel) rfl rfl (Nat.le_of_ble_eq_true rfl) dX4_takeBit_9 (fun H locs hP hD hS => ?_)
  have hP : va_P D vwCl [(h0, .inr (4, [.int (nI tgt), .ref ba, .int (nI nb), .int (nI ((2 * g) + b)), .int (nI gb), .int (bI st), .int (bI fa), .int (bI bt)]))] H := hP
  have hD : va_D A [(h0, .inr (4, [.int (nI tgt), .ref ba, .int (nI nb), .int (nI ((2 * g) + b)), .int (nI gb), .int (bI st), .int (bI fa), .int (bI bt)]))] := hD
  refine lv_aload_n hx hb dX4_takeBit_12 rfl (lv_at hl 0 rfl) ?_
  refine lv_dup hx hb dX4_takeBit_13 rfl ?_
  refine va_get (D := D) (ci := 4) (v := .int (nI gb)) (C := RX4) (T := TX4) (N := 8) hx hb hts inX4_takeBit_X4 hown hK hP 0 rfl rfl 4 (by decide) (hts (.fieldLink RX4 22 "ScrambledLine$Reader" "groupBits" "I") (by decide +kernel)) (fun _ h9 => h9) rfl dX4_takeBit_14 ?_
  refine lv_iconst (v := nI 1) hx hb dX4_takeBit_17 rfl ?_
  refine lv_iadd hx hb dX4_takeBit_18 ?_
  refine lv_to (y := nI (gb + 1)) (nI_add gb 1) ?_
  refine va_put (D := D) (ci := 4) (v := .int (nI (gb + 1))) (ty := .int) (C := RX4) (T := TX4) (N := 8) hx hb hts inX4_takeBit_X4 tyX4 tyX4_ok nmX4 hown hK hP hD hS 0 rfl rfl 4 (by decide) (hts (.fieldLink RX4 22 "ScrambledLine$Reader" "groupBits" "I") (by decide +kernel)) (fun _ h9 => h9) rfl (by decide +kernel) rfl rfl (Nat.le_of_ble_eq_true rfl) dX4_takeBit_19 (fun H locs hP hD hS => ?_)
  have hP : va_P D vwCl [(h0, .inr (4, [.int (nI tgt), .ref ba, .int (nI nb), .int (nI ((2 * g) + b)), .int (nI (gb + 1)), .int (bI st), .int (bI fa), .int (bI bt)]))] H := hP
  have hD : va_D A [(h0, .inr (4, [.int (nI tgt), .ref ba, .int (nI nb), .int (nI ((2 * g) + b)), .int (nI (gb + 1)), .int (bI st), .int (bI fa), .int (bI bt)]))] := hD
  refine lv_aload_n hx hb dX4_takeBit_22 rfl (lv_at hl 0 rfl) ?_
  refine va_get (D := D) (ci := 4) (v := .int (nI (gb + 1))) (C := RX4) (T := TX4) (N := 8) hx hb hts inX4_takeBit_X4 hown hK hP 0 rfl rfl 4 (by decide) (hts (.fieldLink RX4 22 "ScrambledLine$Reader" "groupBits" "I") (by decide +kernel)) (fun _ h9 => h9) rfl dX4_takeBit_23 ?_
  refine lv_iconst (v := nI 5) hx hb dX4_takeBit_26 rfl ?_
  refine lv_icmp_ge (tgt := 32) hx hb dX4_takeBit_27 (by decide) (fun c27 => ?_) (fun c27 => ?_)
  · skip
    have k27 : 5 ≤ (gb + 1) := (nI_leI (a := 5) (b := (gb + 1)) (by omega) (by omega)).mp c27
    exact False.elim (by omega)
  · skip
    have k27 : ¬ 5 ≤ (gb + 1) := fun zq => c27 ((nI_leI (a := 5) (b := (gb + 1)) (by omega) (by omega)).mpr zq)
    refine lv_iconst (v := (-1)) hx hb dX4_takeBit_30 rfl ?_
    refine W_q hQ ?_
    exact rt_i () hx hb hr hlocks dX4_takeBit_31 hS hP hD rfl

set_option maxHeartbeats 4000000 in
set_option maxRecDepth 100000 in
theorem c_X4_takeBit_end (l : Launch) (D : va_G) (cI cG : ClassId) (tt : Nat × Nat × Nat) (sz : Nat) (h0 : Nat) (ba : Nat) (tgt : Nat) (nb : Nat) (g : Nat) (gb : Nat) (st : Bool) (fa : Bool) (bt : Bool) (bf : Nat → Int32) (nf : Nat → Nat) (b : Nat) (ht : tgt < 256) (hg : g < 16) (hgb : gb = 4) (hb0 : b < 2) (hnb : nb < 80) (hB : RB bf nb nf) : Met l yX4_takeBit wsX4_takeBit ({ frames := 4, cells := 0, slots := 0, locals := 76 }) (PC D cI cG tt [.ref h0, .int (nI b)] [(h0, .inr (4, [.int (nI tgt), .ref ba, .int (nI nb), .int (nI g), .int (nI gb), .int (bI st), .int (bI fa), .int (bI bt)])), (ba, .inl (cI, 40, .inl bf))] sz) (QI (fun (r : Int32) (u : Bool × Bool × Bool × Nat × (Nat → Nat) × (Nat → Int32)) => match u with | (st2, fa2, bt2, nb2, nf2, bf2) => r = tgR tgt (2 * g + b) (st, fa, bt, nb, nf) ∧ (st2, fa2, bt2, nb2, nf2) = tgS (2 * g + b) (st, fa, bt, nb, nf) ∧ RB bf2 nb2 nf2) (fun (u : Bool × Bool × Bool × Nat × (Nat → Nat) × (Nat → Int32)) => match u with | (st2, fa2, bt2, nb2, nf2, bf2) => [(h0, .inr (4, [.int (nI tgt), .ref ba, .int (nI nb2), .int (nI 0), .int (nI 0), .int (bI st2), .int (bI fa2), .int (bI bt2)])), (ba, .inl (cI, 40, .inl bf2))]) D (va_A [(h0, .inr (4, [.int (nI tgt), .ref ba, .int (nI nb), .int (nI g), .int (nI gb), .int (bI st), .int (bI fa), .int (bI bt)])), (ba, .inl (cI, 40, .inl bf))] sz)) 0 0 (va_A [(h0, .inr (4, [.int (nI tgt), .ref ba, .int (nI nb), .int (nI g), .int (nI gb), .int (bI st), .int (bI fa), .int (bI bt)])), (ba, .inl (cI, 40, .inl bf))] sz) := by
  refine ct_of (y := yX4_takeBit) (cc := cX4_takeBit) (maxL := 3) (ret := (some .int)) (Qf := QI (fun (r : Int32) (u : Bool × Bool × Bool × Nat × (Nat → Nat) × (Nat → Int32)) => match u with | (st2, fa2, bt2, nb2, nf2, bf2) => r = tgR tgt (2 * g + b) (st, fa, bt, nb, nf) ∧ (st2, fa2, bt2, nb2, nf2) = tgS (2 * g + b) (st, fa, bt, nb, nf) ∧ RB bf2 nb2 nf2) (fun (u : Bool × Bool × Bool × Nat × (Nat → Nat) × (Nat → Int32)) => match u with | (st2, fa2, bt2, nb2, nf2, bf2) => [(h0, .inr (4, [.int (nI tgt), .ref ba, .int (nI nb2), .int (nI 0), .int (nI 0), .int (bI st2), .int (bI fa2), .int (bI bt2)])), (ba, .inl (cI, 40, .inl bf2))]) D) (by decide) rfl ?_
  intro p e s m args below meth c A Q R H locs hR hQ hx hb hml hr hts hown hlocks hin hP hD hE hT hA hS
  have hK := hE.1
  have hl := lv_entry ([.ref h0, .int (nI b)]) (n := 3) (Nat.le_of_ble_eq_true rfl)
  rw [lg_entry_eq]
  generalize (lg_sl ([.ref h0, .int (nI b)]) ++ List.replicate (3 - (lg_sl ([.ref h0, .int (nI b)])).length) Slot.unset).toArray = ls at hl ⊢
  have hl : lv_has ls 3 [(0, .ref h0), (1, .int (nI b))] := hl
  refine lv_aload_n hx hb dX4_takeBit_0 rfl (lv_at hl 0 rfl) ?_
  refine lv_iconst (v := nI 2) hx hb dX4_takeBit_1 rfl ?_
  refine lv_aload_n hx hb dX4_takeBit_2 rfl (lv_at hl 0 rfl) ?_
  refine va_get (D := D) (ci := 4) (v := .int (nI g)) (C := RX4) (T := TX4) (N := 8) hx hb hts inX4_takeBit_X4 hown hK hP 0 rfl rfl 3 (by decide) (hts (.fieldLink RX4 19 "ScrambledLine$Reader" "group" "I") (by decide +kernel)) (fun _ h9 => h9) rfl dX4_takeBit_3 ?_
  refine lv_imul hx hb dX4_takeBit_6 ?_
  refine lv_to (y := nI (2 * g)) (pk_mul 2 g) ?_
  refine lv_iload_n hx hb dX4_takeBit_7 rfl (lv_at hl 1 rfl) ?_
  refine lv_iadd hx hb dX4_takeBit_8 ?_
  refine lv_to (y := nI ((2 * g) + b)) (nI_add (2 * g) b) ?_
  refine va_put (D := D) (ci := 4) (v := .int (nI ((2 * g) + b))) (ty := .int) (C := RX4) (T := TX4) (N := 8) hx hb hts inX4_takeBit_X4 tyX4 tyX4_ok nmX4 hown hK hP hD hS 0 rfl rfl 3 (by decide) (hts (.fieldLink RX4 19 "ScrambledLine$Reader" "group" "I") (by decide +kernel)) (fun _ h9 => h9) rfl (by decide +kernel) rfl rfl (Nat.le_of_ble_eq_true rfl) dX4_takeBit_9 (fun H locs hP hD hS => ?_)
  have hP : va_P D vwCl [(h0, .inr (4, [.int (nI tgt), .ref ba, .int (nI nb), .int (nI ((2 * g) + b)), .int (nI gb), .int (bI st), .int (bI fa), .int (bI bt)])), (ba, .inl (cI, 40, .inl bf))] H := hP
  have hD : va_D A [(h0, .inr (4, [.int (nI tgt), .ref ba, .int (nI nb), .int (nI ((2 * g) + b)), .int (nI gb), .int (bI st), .int (bI fa), .int (bI bt)])), (ba, .inl (cI, 40, .inl bf))] := hD
  refine lv_aload_n hx hb dX4_takeBit_12 rfl (lv_at hl 0 rfl) ?_
  refine lv_dup hx hb dX4_takeBit_13 rfl ?_
  refine va_get (D := D) (ci := 4) (v := .int (nI gb)) (C := RX4) (T := TX4) (N := 8) hx hb hts inX4_takeBit_X4 hown hK hP 0 rfl rfl 4 (by decide) (hts (.fieldLink RX4 22 "ScrambledLine$Reader" "groupBits" "I") (by decide +kernel)) (fun _ h9 => h9) rfl dX4_takeBit_14 ?_
  refine lv_iconst (v := nI 1) hx hb dX4_takeBit_17 rfl ?_
  refine lv_iadd hx hb dX4_takeBit_18 ?_
  refine lv_to (y := nI (gb + 1)) (nI_add gb 1) ?_
  refine va_put (D := D) (ci := 4) (v := .int (nI (gb + 1))) (ty := .int) (C := RX4) (T := TX4) (N := 8) hx hb hts inX4_takeBit_X4 tyX4 tyX4_ok nmX4 hown hK hP hD hS 0 rfl rfl 4 (by decide) (hts (.fieldLink RX4 22 "ScrambledLine$Reader" "groupBits" "I") (by decide +kernel)) (fun _ h9 => h9) rfl (by decide +kernel) rfl rfl (Nat.le_of_ble_eq_true rfl) dX4_takeBit_19 (fun H locs hP hD hS => ?_)
  have hP : va_P D vwCl [(h0, .inr (4, [.int (nI tgt), .ref ba, .int (nI nb), .int (nI ((2 * g) + b)), .int (nI (gb + 1)), .int (bI st), .int (bI fa), .int (bI bt)])), (ba, .inl (cI, 40, .inl bf))] H := hP
  have hD : va_D A [(h0, .inr (4, [.int (nI tgt), .ref ba, .int (nI nb), .int (nI ((2 * g) + b)), .int (nI (gb + 1)), .int (bI st), .int (bI fa), .int (bI bt)])), (ba, .inl (cI, 40, .inl bf))] := hD
  refine lv_aload_n hx hb dX4_takeBit_22 rfl (lv_at hl 0 rfl) ?_
  refine va_get (D := D) (ci := 4) (v := .int (nI (gb + 1))) (C := RX4) (T := TX4) (N := 8) hx hb hts inX4_takeBit_X4 hown hK hP 0 rfl rfl 4 (by decide) (hts (.fieldLink RX4 22 "ScrambledLine$Reader" "groupBits" "I") (by decide +kernel)) (fun _ h9 => h9) rfl dX4_takeBit_23 ?_
  refine lv_iconst (v := nI 5) hx hb dX4_takeBit_26 rfl ?_
  refine lv_icmp_ge (tgt := 32) hx hb dX4_takeBit_27 (by decide) (fun c27 => ?_) (fun c27 => ?_)
  · skip
    have k27 : 5 ≤ (gb + 1) := (nI_leI (a := 5) (b := (gb + 1)) (by omega) (by omega)).mp c27
    refine lv_aload_n hx hb dX4_takeBit_32 rfl (lv_at hl 0 rfl) ?_
    refine va_get (D := D) (ci := 4) (v := .int (nI ((2 * g) + b))) (C := RX4) (T := TX4) (N := 8) hx hb hts inX4_takeBit_X4 hown hK hP 0 rfl rfl 3 (by decide) (hts (.fieldLink RX4 19 "ScrambledLine$Reader" "group" "I") (by decide +kernel)) (fun _ h9 => h9) rfl dX4_takeBit_33 ?_
    refine lv_istore_n (lv' := [(2, .int (nI ((2 * g) + b))), (0, .ref h0), (1, .int (nI b))]) hx hb dX4_takeBit_36 rfl hl (by decide) rfl (fun ls hl => ?_)
    refine lv_aload_n hx hb dX4_takeBit_37 rfl (lv_at hl 1 rfl) ?_
    refine lv_iconst (v := nI 0) hx hb dX4_takeBit_38 rfl ?_
    refine va_put (D := D) (ci := 4) (v := .int (nI 0)) (ty := .int) (C := RX4) (T := TX4) (N := 8) hx hb hts inX4_takeBit_X4 tyX4 tyX4_ok nmX4 hown hK hP hD hS 0 rfl rfl 3 (by decide) (hts (.fieldLink RX4 19 "ScrambledLine$Reader" "group" "I") (by decide +kernel)) (fun _ h9 => h9) rfl (by decide +kernel) rfl rfl (Nat.le_of_ble_eq_true rfl) dX4_takeBit_39 (fun H locs hP hD hS => ?_)
    have hP : va_P D vwCl [(h0, .inr (4, [.int (nI tgt), .ref ba, .int (nI nb), .int (nI 0), .int (nI (gb + 1)), .int (bI st), .int (bI fa), .int (bI bt)])), (ba, .inl (cI, 40, .inl bf))] H := hP
    have hD : va_D A [(h0, .inr (4, [.int (nI tgt), .ref ba, .int (nI nb), .int (nI 0), .int (nI (gb + 1)), .int (bI st), .int (bI fa), .int (bI bt)])), (ba, .inl (cI, 40, .inl bf))] := hD
    refine lv_aload_n hx hb dX4_takeBit_42 rfl (lv_at hl 1 rfl) ?_
    refine lv_iconst (v := nI 0) hx hb dX4_takeBit_43 rfl ?_
    refine va_put (D := D) (ci := 4) (v := .int (nI 0)) (ty := .int) (C := RX4) (T := TX4) (N := 8) hx hb hts inX4_takeBit_X4 tyX4 tyX4_ok nmX4 hown hK hP hD hS 0 rfl rfl 4 (by decide) (hts (.fieldLink RX4 22 "ScrambledLine$Reader" "groupBits" "I") (by decide +kernel)) (fun _ h9 => h9) rfl (by decide +kernel) rfl rfl (Nat.le_of_ble_eq_true rfl) dX4_takeBit_44 (fun H locs hP hD hS => ?_)
    have hP : va_P D vwCl [(h0, .inr (4, [.int (nI tgt), .ref ba, .int (nI nb), .int (nI 0), .int (nI 0), .int (bI st), .int (bI fa), .int (bI bt)])), (ba, .inl (cI, 40, .inl bf))] H := hP
    have hD : va_D A [(h0, .inr (4, [.int (nI tgt), .ref ba, .int (nI nb), .int (nI 0), .int (nI 0), .int (bI st), .int (bI fa), .int (bI bt)])), (ba, .inl (cI, 40, .inl bf))] := hD
    refine lv_aload_n hx hb dX4_takeBit_47 rfl (lv_at hl 1 rfl) ?_
    refine lv_iload_n hx hb dX4_takeBit_48 rfl (lv_at hl 0 rfl) ?_
    refine ca_i (wr := []) (ru_V (As := [.int (nI ((2 * g) + b))]) (rest := []) ⟨hx, hb, hml, hown, hts⟩ (c_X4_takeGroup l D cI cG tt H.size h0 ba tgt nb (nI 0) (nI 0) st fa bt bf nf ((2 * g) + b) (by omega) (by omega) hB (by omega)) (cwV 1 hts gX4_takeBit_X4_takeGroup rfl rfl rfl (by decide +kernel) ⟨by rw [hR]; exact Nat.le_of_ble_eq_true rfl, by rw [hR]; exact Nat.le_of_ble_eq_true rfl⟩) hP hD hE hT hS hA [0, 1] rfl (by decide) (va_recv hK hP (ci := 4) (q0 := 0) rfl rfl) rfl hl.1 rfl (Nat.le_of_ble_eq_true rfl) dX4_takeBit_49 ⟨by rw [hR]; exact Nat.le_of_ble_eq_true rfl, by rw [hR]; exact Nat.le_of_ble_eq_true rfl⟩) hP hD hS hA [0, 1] [] rfl rfl (by decide) (by decide) (fun r49 u H locs hw hP hD hS => ?_)
    obtain ⟨st2_49, fa2_49, bt2_49, nb2_49, nf2_49, bf2_49⟩ := u
    obtain ⟨rfl, e1_49, hB2_49⟩ := hw
    have hP : va_P D vwCl [(h0, .inr (4, [.int (nI tgt), .ref ba, .int (nI nb2_49), .int (nI 0), .int (nI 0), .int (bI st2_49), .int (bI fa2_49), .int (bI bt2_49)])), (ba, .inl (cI, 40, .inl bf2_49))] H := hP
    have hD : va_D A [(h0, .inr (4, [.int (nI tgt), .ref ba, .int (nI nb2_49), .int (nI 0), .int (nI 0), .int (bI st2_49), .int (bI fa2_49), .int (bI bt2_49)])), (ba, .inl (cI, 40, .inl bf2_49))] := hD
    refine W_q hQ ?_
    exact rt_i (st2_49, fa2_49, bt2_49, nb2_49, nf2_49, bf2_49) hx hb hr hlocks dX4_takeBit_52 hS hP hD (⟨rfl, e1_49, hB2_49⟩)
  · skip
    have k27 : ¬ 5 ≤ (gb + 1) := fun zq => c27 ((nI_leI (a := 5) (b := (gb + 1)) (by omega) (by omega)).mpr zq)
    exact False.elim (by omega)
