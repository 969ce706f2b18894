/-- ones in a row (ten at most, as the program counts), bits since the last idle -/
def onN (pl on : Nat) : Nat := if pl = 1 then min (on + 1) 10 else 0
def qtN (on qt : Nat) : Nat := if 10 ≤ on then 0 else qt + 1
theorem onN_1 {pl on : Nat} (h : pl = 1) : onN pl on = min (on + 1) 10 := if_pos h
theorem onN_0 {pl on : Nat} (h : ¬ pl = 1) : onN pl on = 0 := if_neg h
theorem onN_le (pl on : Nat) : onN pl on ≤ 10 := by unfold onN; split <;> omega
theorem qtN_0 {on qt : Nat} (h : 10 ≤ on) : qtN on qt = 0 := if_pos h
theorem qtN_1 {on qt : Nat} (h : ¬ 10 ≤ on) : qtN on qt = qt + 1 := if_neg h
theorem qtN_le (on qt : Nat) : qtN on qt ≤ qt + 1 := by unfold qtN; split <;> omega
theorem kN_lt (r : Nat) : kN r < 2 := Nat.mod_lt _ (by decide)
/-- the run of keys; the plain bit; the mark -/
def rkN (ear m run : Nat) : Nat := if kN ear = m then 0 else run + 1
theorem rkN_le (ear m run : Nat) : rkN ear m run ≤ run + 1 := by unfold rkN; split <;> omega
theorem rkN_1 {ear m run : Nat} (hm : m < 2) (h : kN ear = 1 - m) : rkN ear m run = run + 1 := if_neg (by have := kN_lt ear; omega)
theorem rkN_0 {ear m run : Nat} (hm : m < 2) (h : ¬ kN ear = 1 - m) : rkN ear m run = 0 := if_pos (by have := kN_lt ear; omega)
theorem xor1 {m : Nat} (h : m < 2) : nI m ^^^ nI 1 = nI (1 - m) := by
  rcases (show m = 0 ∨ m = 1 by omega) with rfl | rfl <;> rfl
def plN (m ear : Nat) : Nat := (m + kN ear) % 2
theorem plN_lt (m ear : Nat) : plN m ear < 2 := Nat.mod_lt _ (by decide)
theorem xr {a b : Nat} (ha : a < 2) (hb : b < 2) : nI a ^^^ nI b = nI ((a + b) % 2) := by rw [nx_xor, xor_01 a b ha hb]
def mkN (x lv : Int32) : Nat := if x = lv then 0 else 1
theorem mkN_0 {x lv : Int32} (h : x = lv) : mkN x lv = 0 := if_pos h
theorem mkN_1 {x lv : Int32} (h : ¬ x = lv) : mkN x lv = 1 := if_neg h
theorem mkN_lt (x lv : Int32) : mkN x lv < 2 := by unfold mkN; split <;> omega
theorem nI_m1 {k : Nat} (hk : k ≤ 10) : ¬ nI k = (-1) := by
  intro h
  have h1 := nI_toInt (n := k) (by omega)
  rw [h, show (-1 : Int32).toInt = -1 by decide] at h1
  omega
theorem tg_end {tgt w k : Nat} {st fa bt st2 fa2 bt2 : Bool} {nb nb2 : Nat} {nf nf2 : Nat → Nat} (hk : k ≤ 10) (hc : tgR tgt w (st, fa, bt, nb, nf) = nI k) (e : (st2, fa2, bt2, nb2, nf2) = tgS w (st, fa, bt, nb, nf)) : st = st2 ∧ fa = fa2 ∧ bt = bt2 ∧ nb = nb2 ∧ nf = nf2 := by
  have h : tgS w (st, fa, bt, nb, nf) = (st, fa, bt, nb, nf) := by
    cases bt with
    | true => rfl
    | false =>
      by_cases hw : w = 31
      · subst hw; rfl
      · exfalso
        have h1 : tgR tgt w (st, fa, false, nb, nf) = -1 := by
          show (if w = 31 then nI 8 else -1) = -1
          rw [if_neg hw]
        exact nI_m1 hk (hc.symm.trans h1)
  rw [h] at e
  cases e
  exact ⟨rfl, rfl, rfl, rfl, rfl⟩
theorem nt_same {a a' : Int32} {b b' : Int32} {f f' : Nat → Int32} (h : a' = a ∧ b' = b ∧ f' = f) : a = a' ∧ b = b' ∧ f = f' := ⟨h.1.symm, h.2.1.symm, h.2.2.symm⟩
theorem inX2_beginHunt_X2 : ∀ w ∈ u_ws RX2 TX2 9, w ∈ wsX2_beginHunt := by decide +kernel
set_option maxHeartbeats 4000000 in
set_option maxRecDepth 100000 in
theorem c_X2_beginHunt (l : Launch) (D : va_G) (cI cG : ClassId) (tt : Nat × Nat × Nat) (sz : Nat) (h0 : Nat) (sc : Nat) (rd : Nat) (ib : Nat) (mo : Int32) (lv : Int32) (rk : Int32) (on : Int32) (qt : Int32) (lb : Int32) : Met l yX2_beginHunt wsX2_beginHunt ({ frames := 0, cells := 0, slots := 0, locals := 0 }) (PC D cI cG tt [.ref h0] [(h0, .inr (2, [.ref sc, .ref rd, .ref ib, .int mo, .int lv, .int rk, .int on, .int qt, .int lb]))] sz) (QV (fun (u : Unit) => True) (fun (u : Unit) => [(h0, .inr (2, [.ref sc, .ref rd, .ref ib, .int (nI 1), .int lv, .int rk, .int on, .int qt, .int (nI 0)]))]) D (va_A [(h0, .inr (2, [.ref sc, .ref rd, .ref ib, .int mo, .int lv, .int rk, .int on, .int qt, .int lb]))] sz)) 0 0 (va_A [(h0, .inr (2, [.ref sc, .ref rd, .ref ib, .int mo, .int lv, .int rk, .int on, .int qt, .int lb]))] sz) := by
  refine ct_of (y := yX2_beginHunt) (cc := cX2_beginHunt) (maxL := 1) (ret := none) (Qf := QV (fun (u : Unit) => True) (fun (u : Unit) => [(h0, .inr (2, [.ref sc, .ref rd, .ref ib, .int (nI 1), .int lv, .int rk, .int on, .int qt, .int (nI 0)]))]) D) (by decide) rfl ?_
  intro p e s m args below meth c A Q R H locs hR hQ hx hb hml hr hts hown hlocks hin hP hD hE hT hA hS
  have hK := hE.1
  have hl := lv_entry ([.ref h0]) (n := 1) (Nat.le_of_ble_eq_true rfl)
  rw [lg_entry_eq]
  generalize (lg_sl ([.ref h0]) ++ List.replicate (1 - (lg_sl ([.ref h0])).length) Slot.unset).toArray = ls at hl ⊢
  have hl : lv_has ls 1 [(0, .ref h0)] := hl
  refine lv_aload_n hx hb dX2_beginHunt_0 rfl (lv_at hl 0 rfl) ?_
  refine lv_iconst (v := nI 1) hx hb dX2_beginHunt_1 rfl ?_
  refine va_put (D := D) (ci := 2) (v := .int (nI 1)) (ty := .int) (C := RX2) (T := TX2) (N := 9) hx hb hts inX2_beginHunt_X2 tyX2 tyX2_ok nmX2 hown hK hP hD hS 0 rfl rfl 3 (by decide) (hts (.fieldLink RX2 27 "ScrambledLine$Listener" "mode" "I") (by decide +kernel)) (fun _ h9 => h9) rfl (by decide +kernel) rfl rfl (Nat.le_of_ble_eq_true rfl) dX2_beginHunt_2 (fun H locs hP hD hS => ?_)
  have hP : va_P D vwCl [(h0, .inr (2, [.ref sc, .ref rd, .ref ib, .int (nI 1), .int lv, .int rk, .int on, .int qt, .int lb]))] H := hP
  have hD : va_D A [(h0, .inr (2, [.ref sc, .ref rd, .ref ib, .int (nI 1), .int lv, .int rk, .int on, .int qt, .int lb]))] := hD
  refine lv_aload_n hx hb dX2_beginHunt_5 rfl (lv_at hl 0 rfl) ?_
  refine lv_iconst (v := nI 0) hx hb dX2_beginHunt_6 rfl ?_
  refine va_put (D := D) (ci := 2) (v := .int (nI 0)) (ty := .int) (C := RX2) (T := TX2) (N := 9) hx hb hts inX2_beginHunt_X2 tyX2 tyX2_ok nmX2 hown hK hP hD hS 0 rfl rfl 8 (by decide) (hts (.fieldLink RX2 43 "ScrambledLine$Listener" "lastBits" "I") (by decide +kernel)) (fun _ h9 => h9) rfl (by decide +kernel) rfl rfl (Nat.le_of_ble_eq_true rfl) dX2_beginHunt_7 (fun H locs hP hD hS => ?_)
  have hP : va_P D vwCl [(h0, .inr (2, [.ref sc, .ref rd, .ref ib, .int (nI 1), .int lv, .int rk, .int on, .int qt, .int (nI 0)]))] H := hP
  have hD : va_D A [(h0, .inr (2, [.ref sc, .ref rd, .ref ib, .int (nI 1), .int lv, .int rk, .int on, .int qt, .int (nI 0)]))] := hD
  refine W_q hQ ?_
  exact rt_v () hx hb hr hlocks dX2_beginHunt_10 hS hP hD trivial

theorem inX2_countQuiet_X2 : ∀ w ∈ u_ws RX2 TX2 9, w ∈ wsX2_countQuiet := by decide +kernel
set_option maxHeartbeats 4000000 in
set_option maxRecDepth 100000 in
theorem c_X2_countQuiet (l : Launch) (D : va_G) (cI cG : ClassId) (tt : Nat × Nat × Nat) (sz : Nat) (h0 : Nat) (sc : Nat) (rd : Nat) (ib : Nat) (mo : Int32) (lv : Int32) (rk : Int32) (on : Nat) (qt : Nat) (lb : Int32) (pl : Nat) (hpl : pl < 2) (hon : on ≤ 10) (hqt : qt < 400) : Met l yX2_countQuiet wsX2_countQuiet ({ frames := 1, cells := 0, slots := 0, locals := 20 }) (PC D cI cG tt [.ref h0, .int (nI pl)] [(h0, .inr (2, [.ref sc, .ref rd, .ref ib, .int mo, .int lv, .int rk, .int (nI on), .int (nI qt), .int lb]))] sz) (QV (fun (u : Unit) => True) (fun (u : Unit) => [(h0, .inr (2, [.ref sc, .ref rd, .ref ib, .int mo, .int lv, .int rk, .int (nI (onN pl on)), .int (nI (qtN (onN pl on) qt)), .int lb]))]) D (va_A [(h0, .inr (2, [.ref sc, .ref rd, .ref ib, .int mo, .int lv, .int rk, .int (nI on), .int (nI qt), .int lb]))] sz)) 0 0 (va_A [(h0, .inr (2, [.ref sc, .ref rd, .ref ib, .int mo, .int lv, .int rk, .int (nI on), .int (nI qt), .int lb]))] sz) := by
  refine ct_of (y := yX2_countQuiet) (cc := cX2_countQuiet) (maxL := 2) (ret := none) (Qf := QV (fun (u : Unit) => True) (fun (u : Unit) => [(h0, .inr (2, [.ref sc, .ref rd, .ref ib, .int mo, .int lv, .int rk, .int (nI (onN pl on)), .int (nI (qtN (onN pl on) qt)), .int lb]))]) D) (by decide) rfl ?_
  intro p e s m args below meth c A Q R H locs hR hQ hx hb hml hr hts hown hlocks hin hP hD hE hT hA hS
  have hK := hE.1
  have hl := lv_entry ([.ref h0, .int (nI pl)]) (n := 2) (Nat.le_of_ble_eq_true rfl)
  rw [lg_entry_eq]
  generalize (lg_sl ([.ref h0, .int (nI pl)]) ++ List.replicate (2 - (lg_sl ([.ref h0, .int (nI pl)])).length) Slot.unset).toArray = ls at hl ⊢
  have hl : lv_has ls 2 [(0, .ref h0), (1, .int (nI pl))] := hl
  refine lv_aload_n hx hb dX2_countQuiet_0 rfl (lv_at hl 0 rfl) ?_
  refine lv_iload_n hx hb dX2_countQuiet_1 rfl (lv_at hl 1 rfl) ?_
  refine lv_iconst (v := nI 1) hx hb dX2_countQuiet_2 rfl ?_
  have L21 : ∀ (_ : Unit), ∀ (H : Heap) (locs : List Loc), va_P D vwCl [(h0, .inr (2, [.ref sc, .ref rd, .ref ib, .int mo, .int lv, .int rk, .int (nI on), .int (nI qt), .int lb]))] H → va_D A [(h0, .inr (2, [.ref sc, .ref rd, .ref ib, .int mo, .int lv, .int rk, .int (nI on), .int (nI qt), .int lb]))] → va_S A s.heap H locs → ∀ ls : Array Slot, lv_has ls 2 [(0, .ref h0), (1, .int (nI pl))] → W p l e R s m args below meth c H locs 0 0 Q (F0 m 21 ls [.int (nI (onN pl on)), .ref h0]) := by
    intro _  H locs hP hD hS ls hl
    have ho := onN_le pl on
    refine va_put (D := D) (ci := 2) (v := .int (nI (onN pl on))) (ty := .int) (C := RX2) (T := TX2) (N := 9) hx hb hts inX2_countQuiet_X2 tyX2 tyX2_ok nmX2 hown hK hP hD hS 0 rfl rfl 6 (by decide) (hts (.fieldLink RX2 37 "ScrambledLine$Listener" "ones" "I") (by decide +kernel)) (fun _ h9 => h9) rfl (by decide +kernel) rfl rfl (Nat.le_of_ble_eq_true rfl) dX2_countQuiet_21 (fun H locs hP hD hS => ?_)
    have hP : va_P D vwCl [(h0, .inr (2, [.ref sc, .ref rd, .ref ib, .int mo, .int lv, .int rk, .int (nI (onN pl on)), .int (nI qt), .int lb]))] H := hP
    have hD : va_D A [(h0, .inr (2, [.ref sc, .ref rd, .ref ib, .int mo, .int lv, .int rk, .int (nI (onN pl on)), .int (nI qt), .int lb]))] := hD
    refine lv_aload_n hx hb dX2_countQuiet_24 rfl (lv_at hl 0 rfl) ?_
    refine lv_aload_n hx hb dX2_countQuiet_25 rfl (lv_at hl 0 rfl) ?_
    refine va_get (D := D) (ci := 2) (v := .int (nI (onN pl on))) (C := RX2) (T := TX2) (N := 9) hx hb hts inX2_countQuiet_X2 hown hK hP 0 rfl rfl 6 (by decide) (hts (.fieldLink RX2 37 "ScrambledLine$Listener" "ones" "I") (by decide +kernel)) (fun _ h9 => h9) rfl dX2_countQuiet_26 ?_
    refine lv_bipush (v := nI 10) hx hb dX2_countQuiet_29 rfl ?_
    refine lv_icmp_lt (tgt := 38) hx hb dX2_countQuiet_31 (by decide) (fun c31 => ?_) (fun c31 => ?_)
    · skip
      have k31 : (onN pl on) < 10 := (nI_ltI (a := (onN pl on)) (b := 10) (by omega) (by omega)).mp c31
      refine lv_aload_n hx hb dX2_countQuiet_38 rfl (lv_at hl 0 rfl) ?_
      refine va_get (D := D) (ci := 2) (v := .int (nI qt)) (C := RX2) (T := TX2) (N := 9) hx hb hts inX2_countQuiet_X2 hown hK hP 0 rfl rfl 7 (by decide) (hts (.fieldLink RX2 40 "ScrambledLine$Listener" "quiet" "I") (by decide +kernel)) (fun _ h9 => h9) rfl dX2_countQuiet_39 ?_
      refine lv_iconst (v := nI 1) hx hb dX2_countQuiet_42 rfl ?_
      refine lv_iadd hx hb dX2_countQuiet_43 ?_
      refine lv_to (y := nI (qtN (onN pl on) qt)) ((nI_add qt 1).trans (congrArg nI (qtN_1 (by omega)).symm)) ?_
      refine va_put (D := D) (ci := 2) (v := .int (nI (qtN (onN pl on) qt))) (ty := .int) (C := RX2) (T := TX2) (N := 9) hx hb hts inX2_countQuiet_X2 tyX2 tyX2_ok nmX2 hown hK hP hD hS 0 rfl rfl 7 (by decide) (hts (.fieldLink RX2 40 "ScrambledLine$Listener" "quiet" "I") (by decide +kernel)) (fun _ h9 => h9) rfl (by decide +kernel) rfl rfl (Nat.le_of_ble_eq_true rfl) dX2_countQuiet_44 (fun H locs hP hD hS => ?_)
      have hP : va_P D vwCl [(h0, .inr (2, [.ref sc, .ref rd, .ref ib, .int mo, .int lv, .int rk, .int (nI (onN pl on)), .int (nI (qtN (onN pl on) qt)), .int lb]))] H := hP
      have hD : va_D A [(h0, .inr (2, [.ref sc, .ref rd, .ref ib, .int mo, .int lv, .int rk, .int (nI (onN pl on)), .int (nI (qtN (onN pl on) qt)), .int lb]))] := hD
      refine W_q hQ ?_
      exact rt_v () hx hb hr hlocks dX2_countQuiet_47 hS hP hD trivial
    · skip
      have k31 : ¬ (onN pl on) < 10 := fun zq => c31 ((nI_ltI (a := (onN pl on)) (b := 10) (by omega) (by omega)).mpr zq)
      refine lv_iconst (v := nI 0) hx hb dX2_countQuiet_34 rfl ?_
      refine lv_to (y := nI (qtN (onN pl on) qt)) (congrArg nI (qtN_0 (by omega)).symm) ?_
      refine lv_goto (tgt := 44) hx hb dX2_countQuiet_35 (by decide) ?_
      refine va_put (D := D) (ci := 2) (v := .int (nI (qtN (onN pl on) qt))) (ty := .int) (C := RX2) (T := TX2) (N := 9) hx hb hts inX2_countQuiet_X2 tyX2 tyX2_ok nmX2 hown hK hP hD hS 0 rfl rfl 7 (by decide) (hts (.fieldLink RX2 40 "ScrambledLine$Listener" "quiet" "I") (by decide +kernel)) (fun _ h9 => h9) rfl (by decide +kernel) rfl rfl (Nat.le_of_ble_eq_true rfl) dX2_countQuiet_44 (fun H locs hP hD hS => ?_)
      have hP : va_P D vwCl [(h0, .inr (2, [.ref sc, .ref rd, .ref ib, .int mo, .int lv, .int rk, .int (nI (onN pl on)), .int (nI (qtN (onN pl on) qt)), .int lb]))] H := hP
      have hD : va_D A [(h0, .inr (2, [.ref sc, .ref rd, .ref ib, .int mo, .int lv, .int rk, .int (nI (onN pl on)), .int (nI (qtN (onN pl on) qt)), .int lb]))] := hD
      refine W_q hQ ?_
      exact rt_v () hx hb hr hlocks dX2_countQuiet_47 hS hP hD trivial
  refine lv_icmp_ne (tgt := 20) hx hb dX2_countQuiet_3 (by decide) (fun c3 => ?_) (fun c3 => ?_)
  · skip
    have k3 : ¬ pl = 1 := fun zq => c3 ((nI_eq (a := pl) (b := 1) (by omega) (by omega)).mpr zq)
    refine lv_iconst (v := nI 0) hx hb dX2_countQuiet_20 rfl ?_
    refine lv_to (y := nI (onN pl on)) (congrArg nI (onN_0 k3).symm) ?_
    exact L21 () _ _ hP hD hS _ (lv_sub hl [0, 1] rfl)
  · skip
    have k3 : pl = 1 := (nI_eq (a := pl) (b := 1) (by omega) (by omega)).mp c3
    refine lv_aload_n hx hb dX2_countQuiet_6 rfl (lv_at hl 0 rfl) ?_
    refine va_get (D := D) (ci := 2) (v := .int (nI on)) (C := RX2) (T := TX2) (N := 9) hx hb hts inX2_countQuiet_X2 hown hK hP 0 rfl rfl 6 (by decide) (hts (.fieldLink RX2 37 "ScrambledLine$Listener" "ones" "I") (by decide +kernel)) (fun _ h9 => h9) rfl dX2_countQuiet_7 ?_
    refine lv_iconst (v := nI 1) hx hb dX2_countQuiet_10 rfl ?_
    refine lv_iadd hx hb dX2_countQuiet_11 ?_
    refine lv_to (y := nI (on + 1)) (nI_add on 1) ?_
    refine lv_bipush (v := nI 10) hx hb dX2_countQuiet_12 rfl ?_
    refine va_mmin hx hb (by rw [hml]; exact hl.1.symm) hown (hts (.methodLink RX2 90 Lib.Math.min.name) (by decide +kernel)) (hts (.static Lib.Math.min.name) (by decide +kernel)) (hts (.initialized "java/lang/Math") (by decide +kernel)) (hts (.code Lib.Math.min.name Lib.Math.min.code 2 (some .int)) (by decide +kernel)) (by rw [hR]; exact Nat.le_of_ble_eq_true rfl) (by rw [hR]; exact Nat.le_of_ble_eq_true rfl) (by rw [hR]; exact Nat.le_of_ble_eq_true rfl) (by rw [hR]; exact Nat.le_of_ble_eq_true rfl) dX2_countQuiet_14 ?_
    refine lv_to (y := nI (onN pl on)) ((mn_n (by omega) (by omega)).trans (congrArg nI (onN_1 k3).symm)) ?_
    refine lv_goto (tgt := 21) hx hb dX2_countQuiet_17 (by decide) ?_
    exact L21 () _ _ hP hD hS _ (lv_sub hl [0, 1] rfl)

theorem inX2_loseLock_X2 : ∀ w ∈ u_ws RX2 TX2 9, w ∈ wsX2_loseLock := by decide +kernel
set_option maxHeartbeats 4000000 in
set_option maxRecDepth 100000 in
theorem c_X2_loseLock (l : Launch) (D : va_G) (cI cG : ClassId) (tt : Nat × Nat × Nat) (sz : Nat) (h0 : Nat) (sc : Nat) (rd : Nat) (ib : Nat) (mo : Nat) (lv : Int32) (rk : Int32) (on : Int32) (qt : Int32) (lb : Int32) (hmo : mo ≤ 2) : Met l yX2_loseLock wsX2_loseLock ({ frames := 0, cells := 0, slots := 0, locals := 0 }) (PC D cI cG tt [.ref h0] [(h0, .inr (2, [.ref sc, .ref rd, .ref ib, .int (nI mo), .int lv, .int rk, .int on, .int qt, .int lb]))] sz) (QI (fun (r : Int32) (u : Unit) => (r = if mo = 2 then nI 10 else (-1))) (fun (u : Unit) => [(h0, .inr (2, [.ref sc, .ref rd, .ref ib, .int (nI 0), .int lv, .int (nI 0), .int on, .int qt, .int lb]))]) D (va_A [(h0, .inr (2, [.ref sc, .ref rd, .ref ib, .int (nI mo), .int lv, .int rk, .int on, .int qt, .int lb]))] sz)) 0 0 (va_A [(h0, .inr (2, [.ref sc, .ref rd, .ref ib, .int (nI mo), .int lv, .int rk, .int on, .int qt, .int lb]))] sz) := by
  refine ct_of (y := yX2_loseLock) (cc := cX2_loseLock) (maxL := 2) (ret := (some .int)) (Qf := QI (fun (r : Int32) (u : Unit) => (r = if mo = 2 then nI 10 else (-1))) (fun (u : Unit) => [(h0, .inr (2, [.ref sc, .ref rd, .ref ib, .int (nI 0), .int lv, .int (nI 0), .int on, .int qt, .int lb]))]) D) (by decide) rfl ?_
  intro p e s m args below meth c A Q R H locs hR hQ hx hb hml hr hts hown hlocks hin hP hD hE hT hA hS
  have hK := hE.1
  have hl := lv_entry ([.ref h0]) (n := 2) (Nat.le_of_ble_eq_true rfl)
  rw [lg_entry_eq]
  generalize (lg_sl ([.ref h0]) ++ List.replicate (2 - (lg_sl ([.ref h0])).length) Slot.unset).toArray = ls at hl ⊢
  have hl : lv_has ls 2 [(0, .ref h0)] := hl
  refine lv_aload_n hx hb dX2_loseLock_0 rfl (lv_at hl 0 rfl) ?_
  refine va_get (D := D) (ci := 2) (v := .int (nI mo)) (C := RX2) (T := TX2) (N := 9) hx hb hts inX2_loseLock_X2 hown hK hP 0 rfl rfl 3 (by decide) (hts (.fieldLink RX2 27 "ScrambledLine$Listener" "mode" "I") (by decide +kernel)) (fun _ h9 => h9) rfl dX2_loseLock_1 ?_
  refine lv_iconst (v := nI 2) hx hb dX2_loseLock_4 rfl ?_
  refine lv_icmp_ne (tgt := 12) hx hb dX2_loseLock_5 (by decide) (fun c5 => ?_) (fun c5 => ?_)
  · skip
    have k5 : ¬ mo = 2 := fun zq => c5 ((nI_eq (a := mo) (b := 2) (by omega) (by omega)).mpr zq)
    refine lv_iconst (v := nI 0) hx hb dX2_loseLock_12 rfl ?_
    refine lv_istore_n (lv' := [(1, .int (nI 0)), (0, .ref h0)]) hx hb dX2_loseLock_13 rfl hl (by decide) rfl (fun ls hl => ?_)
    refine lv_aload_n hx hb dX2_loseLock_14 rfl (lv_at hl 1 rfl) ?_
    refine lv_iconst (v := nI 0) hx hb dX2_loseLock_15 rfl ?_
    refine va_put (D := D) (ci := 2) (v := .int (nI 0)) (ty := .int) (C := RX2) (T := TX2) (N := 9) hx hb hts inX2_loseLock_X2 tyX2 tyX2_ok nmX2 hown hK hP hD hS 0 rfl rfl 3 (by decide) (hts (.fieldLink RX2 27 "ScrambledLine$Listener" "mode" "I") (by decide +kernel)) (fun _ h9 => h9) rfl (by decide +kernel) rfl rfl (Nat.le_of_ble_eq_true rfl) dX2_loseLock_16 (fun H locs hP hD hS => ?_)
    have hP : va_P D vwCl [(h0, .inr (2, [.ref sc, .ref rd, .ref ib, .int (nI 0), .int lv, .int rk, .int on, .int qt, .int lb]))] H := hP
    have hD : va_D A [(h0, .inr (2, [.ref sc, .ref rd, .ref ib, .int (nI 0), .int lv, .int rk, .int on, .int qt, .int lb]))] := hD
    refine lv_aload_n hx hb dX2_loseLock_19 rfl (lv_at hl 1 rfl) ?_
    refine lv_iconst (v := nI 0) hx hb dX2_loseLock_20 rfl ?_
    refine va_put (D := D) (ci := 2) (v := .int (nI 0)) (ty := .int) (C := RX2) (T := TX2) (N := 9) hx hb hts inX2_loseLock_X2 tyX2 tyX2_ok nmX2 hown hK hP hD hS 0 rfl rfl 5 (by decide) (hts (.fieldLink RX2 34 "ScrambledLine$Listener" "runOfKeys" "I") (by decide +kernel)) (fun _ h9 => h9) rfl (by decide +kernel) rfl rfl (Nat.le_of_ble_eq_true rfl) dX2_loseLock_21 (fun H locs hP hD hS => ?_)
    have hP : va_P D vwCl [(h0, .inr (2, [.ref sc, .ref rd, .ref ib, .int (nI 0), .int lv, .int (nI 0), .int on, .int qt, .int lb]))] H := hP
    have hD : va_D A [(h0, .inr (2, [.ref sc, .ref rd, .ref ib, .int (nI 0), .int lv, .int (nI 0), .int on, .int qt, .int lb]))] := hD
    refine lv_iload_n hx hb dX2_loseLock_24 rfl (lv_at hl 0 rfl) ?_
    refine lv_if_eq (tgt := 33) hx hb dX2_loseLock_25 (by decide) (fun c25 => ?_) (fun c25 => ?_)
    · skip
      have k25 : 0 = 0 := (nI_eq (a := 0) (b := 0) (by omega) (by omega)).mp c25
      refine lv_iconst (v := (-1)) hx hb dX2_loseLock_33 rfl ?_
      refine W_q hQ ?_
      exact rt_i () hx hb hr hlocks dX2_loseLock_34 hS hP hD ((if_neg k5).symm)
    · skip
      have k25 : ¬ 0 = 0 := fun zq => c25 ((nI_eq (a := 0) (b := 0) (by omega) (by omega)).mpr zq)
      exact False.elim (by omega)
  · skip
    have k5 : mo = 2 := (nI_eq (a := mo) (b := 2) (by omega) (by omega)).mp c5
    refine lv_iconst (v := nI 1) hx hb dX2_loseLock_8 rfl ?_
    refine lv_goto (tgt := 13) hx hb dX2_loseLock_9 (by decide) ?_
    refine lv_istore_n (lv' := [(1, .int (nI 1)), (0, .ref h0)]) hx hb dX2_loseLock_13 rfl hl (by decide) rfl (fun ls hl => ?_)
    refine lv_aload_n hx hb dX2_loseLock_14 rfl (lv_at hl 1 rfl) ?_
    refine lv_iconst (v := nI 0) hx hb dX2_loseLock_15 rfl ?_
    refine va_put (D := D) (ci := 2) (v := .int (nI 0)) (ty := .int) (C := RX2) (T := TX2) (N := 9) hx hb hts inX2_loseLock_X2 tyX2 tyX2_ok nmX2 hown hK hP hD hS 0 rfl rfl 3 (by decide) (hts (.fieldLink RX2 27 "ScrambledLine$Listener" "mode" "I") (by decide +kernel)) (fun _ h9 => h9) rfl (by decide +kernel) rfl rfl (Nat.le_of_ble_eq_true rfl) dX2_loseLock_16 (fun H locs hP hD hS => ?_)
    have hP : va_P D vwCl [(h0, .inr (2, [.ref sc, .ref rd, .ref ib, .int (nI 0), .int lv, .int rk, .int on, .int qt, .int lb]))] H := hP
    have hD : va_D A [(h0, .inr (2, [.ref sc, .ref rd, .ref ib, .int (nI 0), .int lv, .int rk, .int on, .int qt, .int lb]))] := hD
    refine lv_aload_n hx hb dX2_loseLock_19 rfl (lv_at hl 1 rfl) ?_
    refine lv_iconst (v := nI 0) hx hb dX2_loseLock_20 rfl ?_
    refine va_put (D := D) (ci := 2) (v := .int (nI 0)) (ty := .int) (C := RX2) (T := TX2) (N := 9) hx hb hts inX2_loseLock_X2 tyX2 tyX2_ok nmX2 hown hK hP hD hS 0 rfl rfl 5 (by decide) (hts (.fieldLink RX2 34 "ScrambledLine$Listener" "runOfKeys" "I") (by decide +kernel)) (fun _ h9 => h9) rfl (by decide +kernel) rfl rfl (Nat.le_of_ble_eq_true rfl) dX2_loseLock_21 (fun H locs hP hD hS => ?_)
    have hP : va_P D vwCl [(h0, .inr (2, [.ref sc, .ref rd, .ref ib, .int (nI 0), .int lv, .int (nI 0), .int on, .int qt, .int lb]))] H := hP
    have hD : va_D A [(h0, .inr (2, [.ref sc, .ref rd, .ref ib, .int (nI 0), .int lv, .int (nI 0), .int on, .int qt, .int lb]))] := hD
    refine lv_iload_n hx hb dX2_loseLock_24 rfl (lv_at hl 0 rfl) ?_
    refine lv_if_eq (tgt := 33) hx hb dX2_loseLock_25 (by decide) (fun c25 => ?_) (fun c25 => ?_)
    · skip
      have k25 : 1 = 0 := (nI_eq (a := 1) (b := 0) (by omega) (by omega)).mp c25
      exact False.elim (by omega)
    · skip
      have k25 : ¬ 1 = 0 := fun zq => c25 ((nI_eq (a := 1) (b := 0) (by omega) (by omega)).mpr zq)
      refine lv_bipush (v := nI 10) hx hb dX2_loseLock_28 rfl ?_
      refine lv_goto (tgt := 34) hx hb dX2_loseLock_30 (by decide) ?_
      refine W_q hQ ?_
      exact rt_i () hx hb hr hlocks dX2_loseLock_34 hS hP hD ((if_pos k5).symm)

theorem inX2_hunt_X2 : ∀ w ∈ u_ws RX2 TX2 9, w ∈ wsX2_hunt := by decide +kernel
set_option maxHeartbeats 4000000 in
set_option maxRecDepth 100000 in
theorem c_X2_hunt_no (l : Launch) (D : va_G) (cI cG : ClassId) (tt : Nat × Nat × Nat) (sz : Nat) (h0 : Nat) (sc : Nat) (rd : Nat) (ib : Nat) (mo : Int32) (lv : Int32) (rk : Int32) (on : Int32) (qt : Int32) (lb : Nat) (ba : Nat) (tgt : Nat) (nb : Int32) (g : Int32) (gb : Int32) (st : Int32) (fa : Int32) (bt : Int32) (pl : Nat) (hpl : pl < 2) (hlb : lb < 1024) (hh : ¬ (2 * lb + pl) % 1024 = 785) : Met l yX2_hunt wsX2_hunt ({ frames := 1, cells := 0, slots := 0, locals := 20 }) (PC D cI cG tt [.ref h0, .int (nI pl)] [(h0, .inr (2, [.ref sc, .ref rd, .ref ib, .int mo, .int lv, .int rk, .int on, .int qt, .int (nI lb)])), (rd, .inr (4, [.int (nI tgt), .ref ba, .int nb, .int g, .int gb, .int st, .int fa, .int bt]))] sz) (QV (fun (u : Unit) => True) (fun (u : Unit) => [(h0, .inr (2, [.ref sc, .ref rd, .ref ib, .int mo, .int lv, .int rk, .int on, .int qt, .int (nI ((2 * lb + pl) % 1024))])), (rd, .inr (4, [.int (nI tgt), .ref ba, .int nb, .int g, .int gb, .int st, .int fa, .int bt]))]) D (va_A [(h0, .inr (2, [.ref sc, .ref rd, .ref ib, .int mo, .int lv, .int rk, .int on, .int qt, .int (nI lb)])), (rd, .inr (4, [.int (nI tgt), .ref ba, .int nb, .int g, .int gb, .int st, .int fa, .int bt]))] sz)) 0 0 (va_A [(h0, .inr (2, [.ref sc, .ref rd, .ref ib, .int mo, .int lv, .int rk, .int on, .int qt, .int (nI lb)])), (rd, .inr (4, [.int (nI tgt), .ref ba, .int nb, .int g, .int gb, .int st, .int fa, .int bt]))] sz) := by
  refine ct_of (y := yX2_hunt) (cc := cX2_hunt) (maxL := 2) (ret := none) (Qf := QV (fun (u : Unit) => True) (fun (u : Unit) => [(h0, .inr (2, [.ref sc, .ref rd, .ref ib, .int mo, .int lv, .int rk, .int on, .int qt, .int (nI ((2 * lb + pl) % 1024))])), (rd, .inr (4, [.int (nI tgt), .ref ba, .int nb, .int g, .int gb, .int st, .int fa, .int bt]))]) D) (by decide) rfl ?_
  intro p e s m args below meth c A Q R H locs hR hQ hx hb hml hr hts hown hlocks hin hP hD hE hT hA hS
  have hK := hE.1
  have hl := lv_entry ([.ref h0, .int (nI pl)]) (n := 2) (Nat.le_of_ble_eq_true rfl)
  rw [lg_entry_eq]
  generalize (lg_sl ([.ref h0, .int (nI pl)]) ++ List.replicate (2 - (lg_sl ([.ref h0, .int (nI pl)])).length) Slot.unset).toArray = ls at hl ⊢
  have hl : lv_has ls 2 [(0, .ref h0), (1, .int (nI pl))] := hl
  refine lv_aload_n hx hb dX2_hunt_0 rfl (lv_at hl 0 rfl) ?_
  refine lv_iconst (v := nI 2) hx hb dX2_hunt_1 rfl ?_
  refine lv_aload_n hx hb dX2_hunt_2 rfl (lv_at hl 0 rfl) ?_
  refine va_get (D := D) (ci := 2) (v := .int (nI lb)) (C := RX2) (T := TX2) (N := 9) hx hb hts inX2_hunt_X2 hown hK hP 0 rfl rfl 8 (by decide) (hts (.fieldLink RX2 43 "ScrambledLine$Listener" "lastBits" "I") (by decide +kernel)) (fun _ h9 => h9) rfl dX2_hunt_3 ?_
  refine lv_imul hx hb dX2_hunt_6 ?_
  refine lv_to (y := nI (2 * lb)) (pk_mul 2 lb) ?_
  refine lv_iload_n hx hb dX2_hunt_7 rfl (lv_at hl 1 rfl) ?_
  refine lv_iadd hx hb dX2_hunt_8 ?_
  refine lv_to (y := nI ((2 * lb) + pl)) (nI_add (2 * lb) pl) ?_
  refine lv_sipush (v := nI 1024) hx hb dX2_hunt_9 rfl ?_
  refine lv_irem hx hb dX2_hunt_12 (by decide) ?_
  refine lv_to (y := nI (((2 * lb) + pl) % 1024)) (pk_rem (by omega) (by decide) (by decide)) ?_
  refine va_put (D := D) (ci := 2) (v := .int (nI (((2 * lb) + pl) % 1024))) (ty := .int) (C := RX2) (T := TX2) (N := 9) hx hb hts inX2_hunt_X2 tyX2 tyX2_ok nmX2 hown hK hP hD hS 0 rfl rfl 8 (by decide) (hts (.fieldLink RX2 43 "ScrambledLine$Listener" "lastBits" "I") (by decide +kernel)) (fun _ h9 => h9) rfl (by decide +kernel) rfl rfl (Nat.le_of_ble_eq_true rfl) dX2_hunt_13 (fun H locs hP hD hS => ?_)
  have hP : va_P D vwCl [(h0, .inr (2, [.ref sc, .ref rd, .ref ib, .int mo, .int lv, .int rk, .int on, .int qt, .int (nI (((2 * lb) + pl) % 1024))])), (rd, .inr (4, [.int (nI tgt), .ref ba, .int nb, .int g, .int gb, .int st, .int fa, .int bt]))] H := hP
  have hD : va_D A [(h0, .inr (2, [.ref sc, .ref rd, .ref ib, .int mo, .int lv, .int rk, .int on, .int qt, .int (nI (((2 * lb) + pl) % 1024))])), (rd, .inr (4, [.int (nI tgt), .ref ba, .int nb, .int g, .int gb, .int st, .int fa, .int bt]))] := hD
  refine lv_aload_n hx hb dX2_hunt_16 rfl (lv_at hl 0 rfl) ?_
  refine va_get (D := D) (ci := 2) (v := .int (nI (((2 * lb) + pl) % 1024))) (C := RX2) (T := TX2) (N := 9) hx hb hts inX2_hunt_X2 hown hK hP 0 rfl rfl 8 (by decide) (hts (.fieldLink RX2 43 "ScrambledLine$Listener" "lastBits" "I") (by decide +kernel)) (fun _ h9 => h9) rfl dX2_hunt_17 ?_
  refine lv_sipush (v := nI 785) hx hb dX2_hunt_20 rfl ?_
  refine lv_icmp_ne (tgt := 38) hx hb dX2_hunt_23 (by decide) (fun c23 => ?_) (fun c23 => ?_)
  · skip
    have k23 : ¬ (((2 * lb) + pl) % 1024) = 785 := fun zq => c23 ((nI_eq (a := (((2 * lb) + pl) % 1024)) (b := 785) (by omega) (by omega)).mpr zq)
    refine W_q hQ ?_
    exact rt_v () hx hb hr hlocks dX2_hunt_38 hS hP hD trivial
  · skip
    have k23 : (((2 * lb) + pl) % 1024) = 785 := (nI_eq (a := (((2 * lb) + pl) % 1024)) (b := 785) (by omega) (by omega)).mp c23
    exact False.elim (by omega)

set_option maxHeartbeats 4000000 in
set_option maxRecDepth 100000 in
theorem c_X2_hunt_yes (l : Launch) (D : va_G) (cI cG : ClassId) (tt : Nat × Nat × Nat) (sz : Nat) (h0 : Nat) (sc : Nat) (rd : Nat) (ib : Nat) (mo : Int32) (lv : Int32) (rk : Int32) (on : Int32) (qt : Int32) (lb : Nat) (ba : Nat) (tgt : Nat) (nb : Int32) (g : Int32) (gb : Int32) (st : Int32) (fa : Int32) (bt : Int32) (pl : Nat) (hpl : pl < 2) (hlb : lb < 1024) (hh : (2 * lb + pl) % 1024 = 785) : Met l yX2_hunt wsX2_hunt ({ frames := 1, cells := 0, slots := 0, locals := 20 }) (PC D cI cG tt [.ref h0, .int (nI pl)] [(h0, .inr (2, [.ref sc, .ref rd, .ref ib, .int mo, .int lv, .int rk, .int on, .int qt, .int (nI lb)])), (rd, .inr (4, [.int (nI tgt), .ref ba, .int nb, .int g, .int gb, .int st, .int fa, .int bt]))] sz) (QV (fun (u : Unit) => True) (fun (u : Unit) => [(h0, .inr (2, [.ref sc, .ref rd, .ref ib, .int (nI 2), .int lv, .int rk, .int on, .int qt, .int (nI ((2 * lb + pl) % 1024))])), (rd, .inr (4, [.int (nI tgt), .ref ba, .int (nI 0), .int (nI 0), .int (nI 0), .int (nI 0), .int (nI 0), .int (nI 0)]))]) D (va_A [(h0, .inr (2, [.ref sc, .ref rd, .ref ib, .int mo, .int lv, .int rk, .int on, .int qt, .int (nI lb)])), (rd, .inr (4, [.int (nI tgt), .ref ba, .int nb, .int g, .int gb, .int st, .int fa, .int bt]))] sz)) 0 0 (va_A [(h0, .inr (2, [.ref sc, .ref rd, .ref ib, .int mo, .int lv, .int rk, .int on, .int qt, .int (nI lb)])), (rd, .inr (4, [.int (nI tgt), .ref ba, .int nb, .int g, .int gb, .int st, .int fa, .int bt]))] sz) := by
  refine ct_of (y := yX2_hunt) (cc := cX2_hunt) (maxL := 2) (ret := none) (Qf := QV (fun (u : Unit) => True) (fun (u : Unit) => [(h0, .inr (2, [.ref sc, .ref rd, .ref ib, .int (nI 2), .int lv, .int rk, .int on, .int qt, .int (nI ((2 * lb + pl) % 1024))])), (rd, .inr (4, [.int (nI tgt), .ref ba, .int (nI 0), .int (nI 0), .int (nI 0), .int (nI 0), .int (nI 0), .int (nI 0)]))]) D) (by decide) rfl ?_
  intro p e s m args below meth c A Q R H locs hR hQ hx hb hml hr hts hown hlocks hin hP hD hE hT hA hS
  have hK := hE.1
  have hl := lv_entry ([.ref h0, .int (nI pl)]) (n := 2) (Nat.le_of_ble_eq_true rfl)
  rw [lg_entry_eq]
  generalize (lg_sl ([.ref h0, .int (nI pl)]) ++ List.replicate (2 - (lg_sl ([.ref h0, .int (nI pl)])).length) Slot.unset).toArray = ls at hl ⊢
  have hl : lv_has ls 2 [(0, .ref h0), (1, .int (nI pl))] := hl
  refine lv_aload_n hx hb dX2_hunt_0 rfl (lv_at hl 0 rfl) ?_
  refine lv_iconst (v := nI 2) hx hb dX2_hunt_1 rfl ?_
  refine lv_aload_n hx hb dX2_hunt_2 rfl (lv_at hl 0 rfl) ?_
  refine va_get (D := D) (ci := 2) (v := .int (nI lb)) (C := RX2) (T := TX2) (N := 9) hx hb hts inX2_hunt_X2 hown hK hP 0 rfl rfl 8 (by decide) (hts (.fieldLink RX2 43 "ScrambledLine$Listener" "lastBits" "I") (by decide +kernel)) (fun _ h9 => h9) rfl dX2_hunt_3 ?_
  refine lv_imul hx hb dX2_hunt_6 ?_
  refine lv_to (y := nI (2 * lb)) (pk_mul 2 lb) ?_
  refine lv_iload_n hx hb dX2_hunt_7 rfl (lv_at hl 1 rfl) ?_
  refine lv_iadd hx hb dX2_hunt_8 ?_
  refine lv_to (y := nI ((2 * lb) + pl)) (nI_add (2 * lb) pl) ?_
  refine lv_sipush (v := nI 1024) hx hb dX2_hunt_9 rfl ?_
  refine lv_irem hx hb dX2_hunt_12 (by decide) ?_
  refine lv_to (y := nI (((2 * lb) + pl) % 1024)) (pk_rem (by omega) (by decide) (by decide)) ?_
  refine va_put (D := D) (ci := 2) (v := .int (nI (((2 * lb) + pl) % 1024))) (ty := .int) (C := RX2) (T := TX2) (N := 9) hx hb hts inX2_hunt_X2 tyX2 tyX2_ok nmX2 hown hK hP hD hS 0 rfl rfl 8 (by decide) (hts (.fieldLink RX2 43 "ScrambledLine$Listener" "lastBits" "I") (by decide +kernel)) (fun _ h9 => h9) rfl (by decide +kernel) rfl rfl (Nat.le_of_ble_eq_true rfl) dX2_hunt_13 (fun H locs hP hD hS => ?_)
  have hP : va_P D vwCl [(h0, .inr (2, [.ref sc, .ref rd, .ref ib, .int mo, .int lv, .int rk, .int on, .int qt, .int (nI (((2 * lb) + pl) % 1024))])), (rd, .inr (4, [.int (nI tgt), .ref ba, .int nb, .int g, .int gb, .int st, .int fa, .int bt]))] H := hP
  have hD : va_D A [(h0, .inr (2, [.ref sc, .ref rd, .ref ib, .int mo, .int lv, .int rk, .int on, .int qt, .int (nI (((2 * lb) + pl) % 1024))])), (rd, .inr (4, [.int (nI tgt), .ref ba, .int nb, .int g, .int gb, .int st, .int fa, .int bt]))] := hD
  refine lv_aload_n hx hb dX2_hunt_16 rfl (lv_at hl 0 rfl) ?_
  refine va_get (D := D) (ci := 2) (v := .int (nI (((2 * lb) + pl) % 1024))) (C := RX2) (T := TX2) (N := 9) hx hb hts inX2_hunt_X2 hown hK hP 0 rfl rfl 8 (by decide) (hts (.fieldLink RX2 43 "ScrambledLine$Listener" "lastBits" "I") (by decide +kernel)) (fun _ h9 => h9) rfl dX2_hunt_17 ?_
  refine lv_sipush (v := nI 785) hx hb dX2_hunt_20 rfl ?_
  refine lv_icmp_ne (tgt := 38) hx hb dX2_hunt_23 (by decide) (fun c23 => ?_) (fun c23 => ?_)
  · skip
    have k23 : ¬ (((2 * lb) + pl) % 1024) = 785 := fun zq => c23 ((nI_eq (a := (((2 * lb) + pl) % 1024)) (b := 785) (by omega) (by omega)).mpr zq)
    exact False.elim (by omega)
  · skip
    have k23 : (((2 * lb) + pl) % 1024) = 785 := (nI_eq (a := (((2 * lb) + pl) % 1024)) (b := 785) (by omega) (by omega)).mp c23
    refine lv_aload_n hx hb dX2_hunt_26 rfl (lv_at hl 0 rfl) ?_
    refine lv_iconst (v := nI 2) hx hb dX2_hunt_27 rfl ?_
    refine va_put (D := D) (ci := 2) (v := .int (nI 2)) (ty := .int) (C := RX2) (T := TX2) (N := 9) hx hb hts inX2_hunt_X2 tyX2 tyX2_ok nmX2 hown hK hP hD hS 0 rfl rfl 3 (by decide) (hts (.fieldLink RX2 27 "ScrambledLine$Listener" "mode" "I") (by decide +kernel)) (fun _ h9 => h9) rfl (by decide +kernel) rfl rfl (Nat.le_of_ble_eq_true rfl) dX2_hunt_28 (fun H locs hP hD hS => ?_)
    have hP : va_P D vwCl [(h0, .inr (2, [.ref sc, .ref rd, .ref ib, .int (nI 2), .int lv, .int rk, .int on, .int qt, .int (nI (((2 * lb) + pl) % 1024))])), (rd, .inr (4, [.int (nI tgt), .ref ba, .int nb, .int g, .int gb, .int st, .int fa, .int bt]))] H := hP
    have hD : va_D A [(h0, .inr (2, [.ref sc, .ref rd, .ref ib, .int (nI 2), .int lv, .int rk, .int on, .int qt, .int (nI (((2 * lb) + pl) % 1024))])), (rd, .inr (4, [.int (nI tgt), .ref ba, .int nb, .int g, .int gb, .int st, .int fa, .int bt]))] := hD
    refine lv_aload_n hx hb dX2_hunt_31 rfl (lv_at hl 0 rfl) ?_
    refine va_get (D := D) (ci := 2) (v := .ref rd) (C := RX2) (T := TX2) (N := 9) hx hb hts inX2_hunt_X2 hown hK hP 0 rfl rfl 1 (by decide) (hts (.fieldLink RX2 49 "ScrambledLine$Listener" "reader" "LScrambledLine$Reader;") (by decide +kernel)) (fun _ h9 => h9) rfl dX2_hunt_32 ?_
    refine ca_v (wr := [(h0, .inr (2, [.ref sc, .ref rd, .ref ib, .int (nI 2), .int lv, .int rk, .int on, .int qt, .int (nI (((2 * lb) + pl) % 1024))]))]) (ru_V (As := []) (rest := []) ⟨hx, hb, hml, hown, hts⟩ (c_X4_begin l D cI cG tt H.size rd ba tgt nb g gb st fa bt) (cwV 0 hts gX2_hunt_X4_begin rfl rfl rfl (by decide +kernel) ⟨by rw [hR]; exact Nat.le_of_ble_eq_true rfl, by rw [hR]; exact Nat.le_of_ble_eq_true rfl⟩) hP hD hE hT hS hA [1] rfl (by decide) (va_recv hK hP (ci := 4) (q0 := 1) rfl rfl) rfl hl.1 rfl (Nat.le_of_ble_eq_true rfl) dX2_hunt_35 ⟨by rw [hR]; exact Nat.le_of_ble_eq_true rfl, by rw [hR]; exact Nat.le_of_ble_eq_true rfl⟩) hP hD hS hA [1] [0] rfl rfl (by decide) (by decide) (fun u H locs hw hP hD hS => ?_)
    have hP : va_P D vwCl [(h0, .inr (2, [.ref sc, .ref rd, .ref ib, .int (nI 2), .int lv, .int rk, .int on, .int qt, .int (nI (((2 * lb) + pl) % 1024))])), (rd, .inr (4, [.int (nI tgt), .ref ba, .int (nI 0), .int (nI 0), .int (nI 0), .int (nI 0), .int (nI 0), .int (nI 0)]))] H := hP
    have hD : va_D A [(h0, .inr (2, [.ref sc, .ref rd, .ref ib, .int (nI 2), .int lv, .int rk, .int on, .int qt, .int (nI (((2 * lb) + pl) % 1024))])), (rd, .inr (4, [.int (nI tgt), .ref ba, .int (nI 0), .int (nI 0), .int (nI 0), .int (nI 0), .int (nI 0), .int (nI 0)]))] := hD
    refine W_q hQ ?_
    exact rt_v () hx hb hr hlocks dX2_hunt_38 hS hP hD trivial

theorem inX2_seekLock_X2 : ∀ w ∈ u_ws RX2 TX2 9, w ∈ wsX2_seekLock := by decide +kernel
set_option maxHeartbeats 4000000 in
set_option maxRecDepth 100000 in
theorem c_X2_seekLock_no (l : Launch) (D : va_G) (cI cG : ClassId) (tt : Nat × Nat × Nat) (sz : Nat) (h0 : Nat) (sc : Nat) (rd : Nat) (ib : Nat) (lv : Int32) (run : Nat) (on : Int32) (qt : Int32) (lb : Int32) (ear : Nat) (mk : Nat) (hm : mk < 2) (hrun : run < 30) (hear : ear < 2048) (hh : ¬ rkN ear mk run = 30) : Met l yX2_seekLock wsX2_seekLock ({ frames := 1, cells := 0, slots := 0, locals := 21 }) (PC D cI cG tt [.ref h0, .int (nI mk)] [(h0, .inr (2, [.ref sc, .ref rd, .ref ib, .int (nI 0), .int lv, .int (nI run), .int on, .int qt, .int lb])), (sc, .inr (5, [.int (nI ear)]))] sz) (QV (fun (u : Unit) => True) (fun (u : Unit) => [(h0, .inr (2, [.ref sc, .ref rd, .ref ib, .int (nI 0), .int lv, .int (nI (rkN ear mk run)), .int on, .int qt, .int lb])), (sc, .inr (5, [.int (nI (rN ear (1 - mk)))]))]) D (va_A [(h0, .inr (2, [.ref sc, .ref rd, .ref ib, .int (nI 0), .int lv, .int (nI run), .int on, .int qt, .int lb])), (sc, .inr (5, [.int (nI ear)]))] sz)) 0 0 (va_A [(h0, .inr (2, [.ref sc, .ref rd, .ref ib, .int (nI 0), .int lv, .int (nI run), .int on, .int qt, .int lb])), (sc, .inr (5, [.int (nI ear)]))] sz) := by
  refine ct_of (y := yX2_seekLock) (cc := cX2_seekLock) (maxL := 3) (ret := none) (Qf := QV (fun (u : Unit) => True) (fun (u : Unit) => [(h0, .inr (2, [.ref sc, .ref rd, .ref ib, .int (nI 0), .int lv, .int (nI (rkN ear mk run)), .int on, .int qt, .int lb])), (sc, .inr (5, [.int (nI (rN ear (1 - mk)))]))]) D) (by decide) rfl ?_
  intro p e s m args below meth c A Q R H locs hR hQ hx hb hml hr hts hown hlocks hin hP hD hE hT hA hS
  have hK := hE.1
  have hl := lv_entry ([.ref h0, .int (nI mk)]) (n := 3) (Nat.le_of_ble_eq_true rfl)
  rw [lg_entry_eq]
  generalize (lg_sl ([.ref h0, .int (nI mk)]) ++ List.replicate (3 - (lg_sl ([.ref h0, .int (nI mk)])).length) Slot.unset).toArray = ls at hl ⊢
  have hl : lv_has ls 3 [(0, .ref h0), (1, .int (nI mk))] := hl
  have hk2 := kN_lt ear
  have hrk := rkN_le ear mk run
  refine lv_iload_n hx hb dX2_seekLock_0 rfl (lv_at hl 1 rfl) ?_
  refine lv_iconst (v := nI 1) hx hb dX2_seekLock_1 rfl ?_
  refine lv_ixor hx hb dX2_seekLock_2 ?_
  refine lv_to (y := nI (1 - mk)) (xor1 hm) ?_
  refine lv_istore_n (lv' := [(2, .int (nI (1 - mk))), (0, .ref h0), (1, .int (nI mk))]) hx hb dX2_seekLock_3 rfl hl (by decide) rfl (fun ls hl => ?_)
  refine lv_aload_n hx hb dX2_seekLock_4 rfl (lv_at hl 1 rfl) ?_
  refine lv_aload_n hx hb dX2_seekLock_5 rfl (lv_at hl 1 rfl) ?_
  refine va_get (D := D) (ci := 2) (v := .ref sc) (C := RX2) (T := TX2) (N := 9) hx hb hts inX2_seekLock_X2 hown hK hP 0 rfl rfl 0 (by decide) (hts (.fieldLink RX2 14 "ScrambledLine$Listener" "scrambler" "LScrambledLine$Scrambler;") (by decide +kernel)) (fun _ h9 => h9) rfl dX2_seekLock_6 ?_
  refine ca_i (wr := [(h0, .inr (2, [.ref sc, .ref rd, .ref ib, .int (nI 0), .int lv, .int (nI run), .int on, .int qt, .int lb]))]) (ru_V (As := []) (rest := [.ref h0]) ⟨hx, hb, hml, hown, hts⟩ (c_X5_key l D cI cG tt H.size sc ear (by omega)) (cwV 0 hts gX2_seekLock_X5_key rfl rfl rfl (by decide +kernel) ⟨by rw [hR]; exact Nat.le_of_ble_eq_true rfl, by rw [hR]; exact Nat.le_of_ble_eq_true rfl⟩) hP hD hE hT hS hA [1] rfl (by decide) (va_recv hK hP (ci := 5) (q0 := 1) rfl rfl) rfl hl.1 rfl (Nat.le_of_ble_eq_true rfl) dX2_seekLock_9 ⟨by rw [hR]; exact Nat.le_of_ble_eq_true rfl, by rw [hR]; exact Nat.le_of_ble_eq_true rfl⟩) hP hD hS hA [1] [0] rfl rfl (by decide) (by decide) (fun r9 u H locs hw hP hD hS => ?_)
  obtain rfl := hw
  have hP : va_P D vwCl [(h0, .inr (2, [.ref sc, .ref rd, .ref ib, .int (nI 0), .int lv, .int (nI run), .int on, .int qt, .int lb])), (sc, .inr (5, [.int (nI ear)]))] H := hP
  have hD : va_D A [(h0, .inr (2, [.ref sc, .ref rd, .ref ib, .int (nI 0), .int lv, .int (nI run), .int on, .int qt, .int lb])), (sc, .inr (5, [.int (nI ear)]))] := hD
  refine lv_iload_n hx hb dX2_seekLock_12 rfl (lv_at hl 0 rfl) ?_
  have L26 : ∀ (_ : Unit), ∀ (H : Heap) (locs : List Loc), va_P D vwCl [(h0, .inr (2, [.ref sc, .ref rd, .ref ib, .int (nI 0), .int lv, .int (nI run), .int on, .int qt, .int lb])), (sc, .inr (5, [.int (nI ear)]))] H → va_D A [(h0, .inr (2, [.ref sc, .ref rd, .ref ib, .int (nI 0), .int lv, .int (nI run), .int on, .int qt, .int lb])), (sc, .inr (5, [.int (nI ear)]))] → va_S A s.heap H locs → ∀ ls : Array Slot, lv_has ls 3 [(2, .int (nI (1 - mk))), (0, .ref h0), (1, .int (nI mk))] → W p l e R s m args below meth c H locs 0 0 Q (F0 m 26 ls [.int (nI (rkN ear mk run)), .ref h0]) := by
    intro _  H locs hP hD hS ls hl
    refine va_put (D := D) (ci := 2) (v := .int (nI (rkN ear mk run))) (ty := .int) (C := RX2) (T := TX2) (N := 9) hx hb hts inX2_seekLock_X2 tyX2 tyX2_ok nmX2 hown hK hP hD hS 0 rfl rfl 5 (by decide) (hts (.fieldLink RX2 34 "ScrambledLine$Listener" "runOfKeys" "I") (by decide +kernel)) (fun _ h9 => h9) rfl (by decide +kernel) rfl rfl (Nat.le_of_ble_eq_true rfl) dX2_seekLock_26 (fun H locs hP hD hS => ?_)
    have hP : va_P D vwCl [(h0, .inr (2, [.ref sc, .ref rd, .ref ib, .int (nI 0), .int lv, .int (nI (rkN ear mk run)), .int on, .int qt, .int lb])), (sc, .inr (5, [.int (nI ear)]))] H := hP
    have hD : va_D A [(h0, .inr (2, [.ref sc, .ref rd, .ref ib, .int (nI 0), .int lv, .int (nI (rkN ear mk run)), .int on, .int qt, .int lb])), (sc, .inr (5, [.int (nI ear)]))] := hD
    refine lv_aload_n hx hb dX2_seekLock_29 rfl (lv_at hl 1 rfl) ?_
    refine va_get (D := D) (ci := 2) (v := .ref sc) (C := RX2) (T := TX2) (N := 9) hx hb hts inX2_seekLock_X2 hown hK hP 0 rfl rfl 0 (by decide) (hts (.fieldLink RX2 14 "ScrambledLine$Listener" "scrambler" "LScrambledLine$Scrambler;") (by decide +kernel)) (fun _ h9 => h9) rfl dX2_seekLock_30 ?_
    refine lv_iload_n hx hb dX2_seekLock_33 rfl (lv_at hl 0 rfl) ?_
    refine ca_v (wr := [(h0, .inr (2, [.ref sc, .ref rd, .ref ib, .int (nI 0), .int lv, .int (nI (rkN ear mk run)), .int on, .int qt, .int lb]))]) (ru_V (As := [.int (nI (1 - mk))]) (rest := []) ⟨hx, hb, hml, hown, hts⟩ (c_X5_shiftIn l D cI cG tt H.size sc ear (1 - mk) (by omega) (by omega)) (cwV 1 hts gX2_seekLock_X5_shiftIn rfl rfl rfl (by decide +kernel) ⟨by rw [hR]; exact Nat.le_of_ble_eq_true rfl, by rw [hR]; exact Nat.le_of_ble_eq_true rfl⟩) hP hD hE hT hS hA [1] rfl (by decide) (va_recv hK hP (ci := 5) (q0 := 1) rfl rfl) rfl hl.1 rfl (Nat.le_of_ble_eq_true rfl) dX2_seekLock_34 ⟨by rw [hR]; exact Nat.le_of_ble_eq_true rfl, by rw [hR]; exact Nat.le_of_ble_eq_true rfl⟩) hP hD hS hA [1] [0] rfl rfl (by decide) (by decide) (fun u H locs hw hP hD hS => ?_)
    have hP : va_P D vwCl [(h0, .inr (2, [.ref sc, .ref rd, .ref ib, .int (nI 0), .int lv, .int (nI (rkN ear mk run)), .int on, .int qt, .int lb])), (sc, .inr (5, [.int (nI (rN ear (1 - mk)))]))] H := hP
    have hD : va_D A [(h0, .inr (2, [.ref sc, .ref rd, .ref ib, .int (nI 0), .int lv, .int (nI (rkN ear mk run)), .int on, .int qt, .int lb])), (sc, .inr (5, [.int (nI (rN ear (1 - mk)))]))] := hD
    refine lv_aload_n hx hb dX2_seekLock_37 rfl (lv_at hl 1 rfl) ?_
    refine va_get (D := D) (ci := 2) (v := .int (nI (rkN ear mk run))) (C := RX2) (T := TX2) (N := 9) hx hb hts inX2_seekLock_X2 hown hK hP 0 rfl rfl 5 (by decide) (hts (.fieldLink RX2 34 "ScrambledLine$Listener" "runOfKeys" "I") (by decide +kernel)) (fun _ h9 => h9) rfl dX2_seekLock_38 ?_
    refine lv_bipush (v := nI 30) hx hb dX2_seekLock_41 rfl ?_
    refine lv_icmp_lt (tgt := 60) hx hb dX2_seekLock_43 (by decide) (fun c43 => ?_) (fun c43 => ?_)
    · skip
      have k43 : (rkN ear mk run) < 30 := (nI_ltI (a := (rkN ear mk run)) (b := 30) (by omega) (by omega)).mp c43
      refine W_q hQ ?_
      exact rt_v () hx hb hr hlocks dX2_seekLock_60 hS hP hD trivial
    · skip
      have k43 : ¬ (rkN ear mk run) < 30 := fun zq => c43 ((nI_ltI (a := (rkN ear mk run)) (b := 30) (by omega) (by omega)).mpr zq)
      exact False.elim (by omega)
  refine lv_icmp_ne (tgt := 25) hx hb dX2_seekLock_13 (by decide) (fun c13 => ?_) (fun c13 => ?_)
  · skip
    have k13 : ¬ (kN ear) = (1 - mk) := fun zq => c13 ((nI_eq (a := (kN ear)) (b := (1 - mk)) (by omega) (by omega)).mpr zq)
    refine lv_iconst (v := nI 0) hx hb dX2_seekLock_25 rfl ?_
    refine lv_to (y := nI (rkN ear mk run)) (congrArg nI (rkN_0 hm k13).symm) ?_
    exact L26 () _ _ hP hD hS _ (lv_sub hl [0, 1, 2] rfl)
  · skip
    have k13 : (kN ear) = (1 - mk) := (nI_eq (a := (kN ear)) (b := (1 - mk)) (by omega) (by omega)).mp c13
    refine lv_aload_n hx hb dX2_seekLock_16 rfl (lv_at hl 1 rfl) ?_
    refine va_get (D := D) (ci := 2) (v := .int (nI run)) (C := RX2) (T := TX2) (N := 9) hx hb hts inX2_seekLock_X2 hown hK hP 0 rfl rfl 5 (by decide) (hts (.fieldLink RX2 34 "ScrambledLine$Listener" "runOfKeys" "I") (by decide +kernel)) (fun _ h9 => h9) rfl dX2_seekLock_17 ?_
    refine lv_iconst (v := nI 1) hx hb dX2_seekLock_20 rfl ?_
    refine lv_iadd hx hb dX2_seekLock_21 ?_
    refine lv_to (y := nI (rkN ear mk run)) ((nI_add run 1).trans (congrArg nI (rkN_1 hm k13).symm)) ?_
    refine lv_goto (tgt := 26) hx hb dX2_seekLock_22 (by decide) ?_
    exact L26 () _ _ hP hD hS _ (lv_sub hl [0, 1, 2] rfl)

set_option maxHeartbeats 4000000 in
set_option maxRecDepth 100000 in
theorem c_X2_seekLock_yes (l : Launch) (D : va_G) (cI cG : ClassId) (tt : Nat × Nat × Nat) (sz : Nat) (h0 : Nat) (sc : Nat) (rd : Nat) (ib : Nat) (lv : Int32) (run : Nat) (on : Int32) (qt : Int32) (lb : Int32) (ear : Nat) (mk : Nat) (hm : mk < 2) (hrun : run < 30) (hear : ear < 2048) (hh : rkN ear mk run = 30) : Met l yX2_seekLock wsX2_seekLock ({ frames := 1, cells := 0, slots := 0, locals := 21 }) (PC D cI cG tt [.ref h0, .int (nI mk)] [(h0, .inr (2, [.ref sc, .ref rd, .ref ib, .int (nI 0), .int lv, .int (nI run), .int on, .int qt, .int lb])), (sc, .inr (5, [.int (nI ear)]))] sz) (QV (fun (u : Unit) => True) (fun (u : Unit) => [(h0, .inr (2, [.ref sc, .ref rd, .ref ib, .int (nI 1), .int lv, .int (nI (rkN ear mk run)), .int (nI 0), .int (nI 0), .int (nI 0)])), (sc, .inr (5, [.int (nI (rN ear (1 - mk)))]))]) D (va_A [(h0, .inr (2, [.ref sc, .ref rd, .ref ib, .int (nI 0), .int lv, .int (nI run), .int on, .int qt, .int lb])), (sc, .inr (5, [.int (nI ear)]))] sz)) 0 0 (va_A [(h0, .inr (2, [.ref sc, .ref rd, .ref ib, .int (nI 0), .int lv, .int (nI run), .int on, .int qt, .int lb])), (sc, .inr (5, [.int (nI ear)]))] sz) := by
  refine ct_of (y := yX2_seekLock) (cc := cX2_seekLock) (maxL := 3) (ret := none) (Qf := QV (fun (u : Unit) => True) (fun (u : Unit) => [(h0, .inr (2, [.ref sc, .ref rd, .ref ib, .int (nI 1), .int lv, .int (nI (rkN ear mk run)), .int (nI 0), .int (nI 0), .int (nI 0)])), (sc, .inr (5, [.int (nI (rN ear (1 - mk)))]))]) D) (by decide) rfl ?_
  intro p e s m args below meth c A Q R H locs hR hQ hx hb hml hr hts hown hlocks hin hP hD hE hT hA hS
  have hK := hE.1
  have hl := lv_entry ([.ref h0, .int (nI mk)]) (n := 3) (Nat.le_of_ble_eq_true rfl)
  rw [lg_entry_eq]
  generalize (lg_sl ([.ref h0, .int (nI mk)]) ++ List.replicate (3 - (lg_sl ([.ref h0, .int (nI mk)])).length) Slot.unset).toArray = ls at hl ⊢
  have hl : lv_has ls 3 [(0, .ref h0), (1, .int (nI mk))] := hl
  have hk2 := kN_lt ear
  have hrk := rkN_le ear mk run
  refine lv_iload_n hx hb dX2_seekLock_0 rfl (lv_at hl 1 rfl) ?_
  refine lv_iconst (v := nI 1) hx hb dX2_seekLock_1 rfl ?_
  refine lv_ixor hx hb dX2_seekLock_2 ?_
  refine lv_to (y := nI (1 - mk)) (xor1 hm) ?_
  refine lv_istore_n (lv' := [(2, .int (nI (1 - mk))), (0, .ref h0), (1, .int (nI mk))]) hx hb dX2_seekLock_3 rfl hl (by decide) rfl (fun ls hl => ?_)
  refine lv_aload_n hx hb dX2_seekLock_4 rfl (lv_at hl 1 rfl) ?_
  refine lv_aload_n hx hb dX2_seekLock_5 rfl (lv_at hl 1 rfl) ?_
  refine va_get (D := D) (ci := 2) (v := .ref sc) (C := RX2) (T := TX2) (N := 9) hx hb hts inX2_seekLock_X2 hown hK hP 0 rfl rfl 0 (by decide) (hts (.fieldLink RX2 14 "ScrambledLine$Listener" "scrambler" "LScrambledLine$Scrambler;") (by decide +kernel)) (fun _ h9 => h9) rfl dX2_seekLock_6 ?_
  refine ca_i (wr := [(h0, .inr (2, [.ref sc, .ref rd, .ref ib, .int (nI 0), .int lv, .int (nI run), .int on, .int qt, .int lb]))]) (ru_V (As := []) (rest := [.ref h0]) ⟨hx, hb, hml, hown, hts⟩ (c_X5_key l D cI cG tt H.size sc ear (by omega)) (cwV 0 hts gX2_seekLock_X5_key rfl rfl rfl (by decide +kernel) ⟨by rw [hR]; exact Nat.le_of_ble_eq_true rfl, by rw [hR]; exact Nat.le_of_ble_eq_true rfl⟩) hP hD hE hT hS hA [1] rfl (by decide) (va_recv hK hP (ci := 5) (q0 := 1) rfl rfl) rfl hl.1 rfl (Nat.le_of_ble_eq_true rfl) dX2_seekLock_9 ⟨by rw [hR]; exact Nat.le_of_ble_eq_true rfl, by rw [hR]; exact Nat.le_of_ble_eq_true rfl⟩) hP hD hS hA [1] [0] rfl rfl (by decide) (by decide) (fun r9 u H locs hw hP hD hS => ?_)
  obtain rfl := hw
  have hP : va_P D vwCl [(h0, .inr (2, [.ref sc, .ref rd, .ref ib, .int (nI 0), .int lv, .int (nI run), .int on, .int qt, .int lb])), (sc, .inr (5, [.int (nI ear)]))] H := hP
  have hD : va_D A [(h0, .inr (2, [.ref sc, .ref rd, .ref ib, .int (nI 0), .int lv, .int (nI run), .int on, .int qt, .int lb])), (sc, .inr (5, [.int (nI ear)]))] := hD
  refine lv_iload_n hx hb dX2_seekLock_12 rfl (lv_at hl 0 rfl) ?_
  have L26 : ∀ (_ : Unit), ∀ (H : Heap) (locs : List Loc), va_P D vwCl [(h0, .inr (2, [.ref sc, .ref rd, .ref ib, .int (nI 0), .int lv, .int (nI run), .int on, .int qt, .int lb])), (sc, .inr (5, [.int (nI ear)]))] H → va_D A [(h0, .inr (2, [.ref sc, .ref rd, .ref ib, .int (nI 0), .int lv, .int (nI run), .int on, .int qt, .int lb])), (sc, .inr (5, [.int (nI ear)]))] → va_S A s.heap H locs → ∀ ls : Array Slot, lv_has ls 3 [(2, .int (nI (1 - mk))), (0, .ref h0), (1, .int (nI mk))] → W p l e R s m args below meth c H locs 0 0 Q (F0 m 26 ls [.int (nI (rkN ear mk run)), .ref h0]) := by
    intro _  H locs hP hD hS ls hl
    refine va_put (D := D) (ci := 2) (v := .int (nI (rkN ear mk run))) (ty := .int) (C := RX2) (T := TX2) (N := 9) hx hb hts inX2_seekLock_X2 tyX2 tyX2_ok nmX2 hown hK hP hD hS 0 rfl rfl 5 (by decide) (hts (.fieldLink RX2 34 "ScrambledLine$Listener" "runOfKeys" "I") (by decide +kernel)) (fun _ h9 => h9) rfl (by decide +kernel) rfl rfl (Nat.le_of_ble_eq_true rfl) dX2_seekLock_26 (fun H locs hP hD hS => ?_)
    have hP : va_P D vwCl [(h0, .inr (2, [.ref sc, .ref rd, .ref ib, .int (nI 0), .int lv, .int (nI (rkN ear mk run)), .int on, .int qt, .int lb])), (sc, .inr (5, [.int (nI ear)]))] H := hP
    have hD : va_D A [(h0, .inr (2, [.ref sc, .ref rd, .ref ib, .int (nI 0), .int lv, .int (nI (rkN ear mk run)), .int on, .int qt, .int lb])), (sc, .inr (5, [.int (nI ear)]))] := hD
    refine lv_aload_n hx hb dX2_seekLock_29 rfl (lv_at hl 1 rfl) ?_
    refine va_get (D := D) (ci := 2) (v := .ref sc) (C := RX2) (T := TX2) (N := 9) hx hb hts inX2_seekLock_X2 hown hK hP 0 rfl rfl 0 (by decide) (hts (.fieldLink RX2 14 "ScrambledLine$Listener" "scrambler" "LScrambledLine$Scrambler;") (by decide +kernel)) (fun _ h9 => h9) rfl dX2_seekLock_30 ?_
    refine lv_iload_n hx hb dX2_seekLock_33 rfl (lv_at hl 0 rfl) ?_
    refine ca_v (wr := [(h0, .inr (2, [.ref sc, .ref rd, .ref ib, .int (nI 0), .int lv, .int (nI (rkN ear mk run)), .int on, .int qt, .int lb]))]) (ru_V (As := [.int (nI (1 - mk))]) (rest := []) ⟨hx, hb, hml, hown, hts⟩ (c_X5_shiftIn l D cI cG tt H.size sc ear (1 - mk) (by omega) (by omega)) (cwV 1 hts gX2_seekLock_X5_shiftIn rfl rfl rfl (by decide +kernel) ⟨by rw [hR]; exact Nat.le_of_ble_eq_true rfl, by rw [hR]; exact Nat.le_of_ble_eq_true rfl⟩) hP hD hE hT hS hA [1] rfl (by decide) (va_recv hK hP (ci := 5) (q0 := 1) rfl rfl) rfl hl.1 rfl (Nat.le_of_ble_eq_true rfl) dX2_seekLock_34 ⟨by rw [hR]; exact Nat.le_of_ble_eq_true rfl, by rw [hR]; exact Nat.le_of_ble_eq_true rfl⟩) hP hD hS hA [1] [0] rfl rfl (by decide) (by decide) (fun u H locs hw hP hD hS => ?_)
    have hP : va_P D vwCl [(h0, .inr (2, [.ref sc, .ref rd, .ref ib, .int (nI 0), .int lv, .int (nI (rkN ear mk run)), .int on, .int qt, .int lb])), (sc, .inr (5, [.int (nI (rN ear (1 - mk)))]))] H := hP
    have hD : va_D A [(h0, .inr (2, [.ref sc, .ref rd, .ref ib, .int (nI 0), .int lv, .int (nI (rkN ear mk run)), .int on, .int qt, .int lb])), (sc, .inr (5, [.int (nI (rN ear (1 - mk)))]))] := hD
    refine lv_aload_n hx hb dX2_seekLock_37 rfl (lv_at hl 1 rfl) ?_
    refine va_get (D := D) (ci := 2) (v := .int (nI (rkN ear mk run))) (C := RX2) (T := TX2) (N := 9) hx hb hts inX2_seekLock_X2 hown hK hP 0 rfl rfl 5 (by decide) (hts (.fieldLink RX2 34 "ScrambledLine$Listener" "runOfKeys" "I") (by decide +kernel)) (fun _ h9 => h9) rfl dX2_seekLock_38 ?_
    refine lv_bipush (v := nI 30) hx hb dX2_seekLock_41 rfl ?_
    refine lv_icmp_lt (tgt := 60) hx hb dX2_seekLock_43 (by decide) (fun c43 => ?_) (fun c43 => ?_)
    · skip
      have k43 : (rkN ear mk run) < 30 := (nI_ltI (a := (rkN ear mk run)) (b := 30) (by omega) (by omega)).mp c43
      exact False.elim (by omega)
    · skip
      have k43 : ¬ (rkN ear mk run) < 30 := fun zq => c43 ((nI_ltI (a := (rkN ear mk run)) (b := 30) (by omega) (by omega)).mpr zq)
      refine lv_aload_n hx hb dX2_seekLock_46 rfl (lv_at hl 1 rfl) ?_
      refine lv_iconst (v := nI 0) hx hb dX2_seekLock_47 rfl ?_
      refine va_put (D := D) (ci := 2) (v := .int (nI 0)) (ty := .int) (C := RX2) (T := TX2) (N := 9) hx hb hts inX2_seekLock_X2 tyX2 tyX2_ok nmX2 hown hK hP hD hS 0 rfl rfl 7 (by decide) (hts (.fieldLink RX2 40 "ScrambledLine$Listener" "quiet" "I") (by decide +kernel)) (fun _ h9 => h9) rfl (by decide +kernel) rfl rfl (Nat.le_of_ble_eq_true rfl) dX2_seekLock_48 (fun H locs hP hD hS => ?_)
      have hP : va_P D vwCl [(h0, .inr (2, [.ref sc, .ref rd, .ref ib, .int (nI 0), .int lv, .int (nI (rkN ear mk run)), .int on, .int (nI 0), .int lb])), (sc, .inr (5, [.int (nI (rN ear (1 - mk)))]))] H := hP
      have hD : va_D A [(h0, .inr (2, [.ref sc, .ref rd, .ref ib, .int (nI 0), .int lv, .int (nI (rkN ear mk run)), .int on, .int (nI 0), .int lb])), (sc, .inr (5, [.int (nI (rN ear (1 - mk)))]))] := hD
      refine lv_aload_n hx hb dX2_seekLock_51 rfl (lv_at hl 1 rfl) ?_
      refine lv_iconst (v := nI 0) hx hb dX2_seekLock_52 rfl ?_
      refine va_put (D := D) (ci := 2) (v := .int (nI 0)) (ty := .int) (C := RX2) (T := TX2) (N := 9) hx hb hts inX2_seekLock_X2 tyX2 tyX2_ok nmX2 hown hK hP hD hS 0 rfl rfl 6 (by decide) (hts (.fieldLink RX2 37 "ScrambledLine$Listener" "ones" "I") (by decide +kernel)) (fun _ h9 => h9) rfl (by decide +kernel) rfl rfl (Nat.le_of_ble_eq_true rfl) dX2_seekLock_53 (fun H locs hP hD hS => ?_)
      have hP : va_P D vwCl [(h0, .inr (2, [.ref sc, .ref rd, .ref ib, .int (nI 0), .int lv, .int (nI (rkN ear mk run)), .int (nI 0), .int (nI 0), .int lb])), (sc, .inr (5, [.int (nI (rN ear (1 - mk)))]))] H := hP
      have hD : va_D A [(h0, .inr (2, [.ref sc, .ref rd, .ref ib, .int (nI 0), .int lv, .int (nI (rkN ear mk run)), .int (nI 0), .int (nI 0), .int lb])), (sc, .inr (5, [.int (nI (rN ear (1 - mk)))]))] := hD
      refine lv_aload_n hx hb dX2_seekLock_56 rfl (lv_at hl 1 rfl) ?_
      refine ca_v (wr := [(sc, .inr (5, [.int (nI (rN ear (1 - mk)))]))]) (ru_V (As := []) (rest := []) ⟨hx, hb, hml, hown, hts⟩ (c_X2_beginHunt l D cI cG tt H.size h0 sc rd ib (nI 0) lv (nI (rkN ear mk run)) (nI 0) (nI 0) lb) (cwV 0 hts gX2_seekLock_X2_beginHunt rfl rfl rfl (by decide +kernel) ⟨by rw [hR]; exact Nat.le_of_ble_eq_true rfl, by rw [hR]; exact Nat.le_of_ble_eq_true rfl⟩) hP hD hE hT hS hA [0] rfl (by decide) (va_recv hK hP (ci := 2) (q0 := 0) rfl rfl) rfl hl.1 rfl (Nat.le_of_ble_eq_true rfl) dX2_seekLock_57 ⟨by rw [hR]; exact Nat.le_of_ble_eq_true rfl, by rw [hR]; exact Nat.le_of_ble_eq_true rfl⟩) hP hD hS hA [0] [1] rfl rfl (by decide) (by decide) (fun u H locs hw hP hD hS => ?_)
      have hP : va_P D vwCl [(sc, .inr (5, [.int (nI (rN ear (1 - mk)))])), (h0, .inr (2, [.ref sc, .ref rd, .ref ib, .int (nI 1), .int lv, .int (nI (rkN ear mk run)), .int (nI 0), .int (nI 0), .int (nI 0)]))] H := hP
      have hD : va_D A [(sc, .inr (5, [.int (nI (rN ear (1 - mk)))])), (h0, .inr (2, [.ref sc, .ref rd, .ref ib, .int (nI 1), .int lv, .int (nI (rkN ear mk run)), .int (nI 0), .int (nI 0), .int (nI 0)]))] := hD
      refine W_q hQ ?_
      exact rt_v () hx hb hr hlocks dX2_seekLock_60 hS (hP.sub [1, 0] rfl) (hD.sub [1, 0] (by decide) rfl) trivial
  refine lv_icmp_ne (tgt := 25) hx hb dX2_seekLock_13 (by decide) (fun c13 => ?_) (fun c13 => ?_)
  · skip
    have k13 : ¬ (kN ear) = (1 - mk) := fun zq => c13 ((nI_eq (a := (kN ear)) (b := (1 - mk)) (by omega) (by omega)).mpr zq)
    refine lv_iconst (v := nI 0) hx hb dX2_seekLock_25 rfl ?_
    refine lv_to (y := nI (rkN ear mk run)) (congrArg nI (rkN_0 hm k13).symm) ?_
    exact L26 () _ _ hP hD hS _ (lv_sub hl [0, 1, 2] rfl)
  · skip
    have k13 : (kN ear) = (1 - mk) := (nI_eq (a := (kN ear)) (b := (1 - mk)) (by omega) (by omega)).mp c13
    refine lv_aload_n hx hb dX2_seekLock_16 rfl (lv_at hl 1 rfl) ?_
    refine va_get (D := D) (ci := 2) (v := .int (nI run)) (C := RX2) (T := TX2) (N := 9) hx hb hts inX2_seekLock_X2 hown hK hP 0 rfl rfl 5 (by decide) (hts (.fieldLink RX2 34 "ScrambledLine$Listener" "runOfKeys" "I") (by decide +kernel)) (fun _ h9 => h9) rfl dX2_seekLock_17 ?_
    refine lv_iconst (v := nI 1) hx hb dX2_seekLock_20 rfl ?_
    refine lv_iadd hx hb dX2_seekLock_21 ?_
    refine lv_to (y := nI (rkN ear mk run)) ((nI_add run 1).trans (congrArg nI (rkN_1 hm k13).symm)) ?_
    refine lv_goto (tgt := 26) hx hb dX2_seekLock_22 (by decide) ?_
    exact L26 () _ _ hP hD hS _ (lv_sub hl [0, 1, 2] rfl)

theorem inX2_follow_X2 : ∀ w ∈ u_ws RX2 TX2 9, w ∈ wsX2_follow := by decide +kernel
set_option maxHeartbeats 4000000 in
set_option maxRecDepth 100000 in
theorem c_X2_follow_hunt_lose (l : Launch) (D : va_G) (cI cG : ClassId) (tt : Nat × Nat × Nat) (sz : Nat) (h0 : Nat) (sc : Nat) (rd : Nat) (ib : Nat) (lv : Int32) (rk : Int32) (on : Nat) (qt : Nat) (lb : Nat) (ear : Nat) (ba : Nat) (tgt : Nat) (nb : Int32) (g : Int32) (gb : Int32) (st : Int32) (fa : Int32) (bt : Int32) (mk : Nat) (hm : mk < 2) (hear : ear < 2048) (hon : on ≤ 10) (hqt : qt < 400) (hq : qtN (onN (plN mk ear) on) qt = 400) : Met l yX2_follow wsX2_follow ({ frames := 5, cells := 0, slots := 0, locals := 98 }) (PC D cI cG tt [.ref h0, .int (nI mk)] [(h0, .inr (2, [.ref sc, .ref rd, .ref ib, .int (nI 1), .int lv, .int rk, .int (nI on), .int (nI qt), .int (nI lb)])), (sc, .inr (5, [.int (nI ear)])), (rd, .inr (4, [.int (nI tgt), .ref ba, .int nb, .int g, .int gb, .int st, .int fa, .int bt]))] sz) (QI (fun (r : Int32) (u : Unit) => r = (-1)) (fun (u : Unit) => [(h0, .inr (2, [.ref sc, .ref rd, .ref ib, .int (nI 0), .int lv, .int (nI 0), .int (nI (onN (plN mk ear) on)), .int (nI (qtN (onN (plN mk ear) on) qt)), .int (nI lb)])), (sc, .inr (5, [.int (nI (rN ear (kN ear)))])), (rd, .inr (4, [.int (nI tgt), .ref ba, .int nb, .int g, .int gb, .int st, .int fa, .int bt]))]) D (va_A [(h0, .inr (2, [.ref sc, .ref rd, .ref ib, .int (nI 1), .int lv, .int rk, .int (nI on), .int (nI qt), .int (nI lb)])), (sc, .inr (5, [.int (nI ear)])), (rd, .inr (4, [.int (nI tgt), .ref ba, .int nb, .int g, .int gb, .int st, .int fa, .int bt]))] sz)) 0 0 (va_A [(h0, .inr (2, [.ref sc, .ref rd, .ref ib, .int (nI 1), .int lv, .int rk, .int (nI on), .int (nI qt), .int (nI lb)])), (sc, .inr (5, [.int (nI ear)])), (rd, .inr (4, [.int (nI tgt), .ref ba, .int nb, .int g, .int gb, .int st, .int fa, .int bt]))] sz) := by
  refine ct_of (y := yX2_follow) (cc := cX2_follow) (maxL := 5) (ret := (some .int)) (Qf := QI (fun (r : Int32) (u : Unit) => r = (-1)) (fun (u : Unit) => [(h0, .inr (2, [.ref sc, .ref rd, .ref ib, .int (nI 0), .int lv, .int (nI 0), .int (nI (onN (plN mk ear) on)), .int (nI (qtN (onN (plN mk ear) on) qt)), .int (nI lb)])), (sc, .inr (5, [.int (nI (rN ear (kN ear)))])), (rd, .inr (4, [.int (nI tgt), .ref ba, .int nb, .int g, .int gb, .int st, .int fa, .int bt]))]) D) (by decide) rfl ?_
  intro p e s m args below meth c A Q R H locs hR hQ hx hb hml hr hts hown hlocks hin hP hD hE hT hA hS
  have hK := hE.1
  have hl := lv_entry ([.ref h0, .int (nI mk)]) (n := 5) (Nat.le_of_ble_eq_true rfl)
  rw [lg_entry_eq]
  generalize (lg_sl ([.ref h0, .int (nI mk)]) ++ List.replicate (5 - (lg_sl ([.ref h0, .int (nI mk)])).length) Slot.unset).toArray = ls at hl ⊢
  have hl : lv_has ls 5 [(0, .ref h0), (1, .int (nI mk))] := hl
  have hk2 := kN_lt ear
  have hp2 := plN_lt mk ear
  have hq4 := qtN_le (onN (plN mk ear) on) qt
  have ho4 := onN_le (plN mk ear) on
  refine lv_aload_n hx hb dX2_follow_0 rfl (lv_at hl 0 rfl) ?_
  refine va_get (D := D) (ci := 2) (v := .ref sc) (C := RX2) (T := TX2) (N := 9) hx hb hts inX2_follow_X2 hown hK hP 0 rfl rfl 0 (by decide) (hts (.fieldLink RX2 14 "ScrambledLine$Listener" "scrambler" "LScrambledLine$Scrambler;") (by decide +kernel)) (fun _ h9 => h9) rfl dX2_follow_1 ?_
  refine ca_i (wr := [(h0, .inr (2, [.ref sc, .ref rd, .ref ib, .int (nI 1), .int lv, .int rk, .int (nI on), .int (nI qt), .int (nI lb)])), (rd, .inr (4, [.int (nI tgt), .ref ba, .int nb, .int g, .int gb, .int st, .int fa, .int bt]))]) (ru_V (As := []) (rest := []) ⟨hx, hb, hml, hown, hts⟩ (c_X5_key l D cI cG tt H.size sc ear (by omega)) (cwV 0 hts gX2_follow_X5_key rfl rfl rfl (by decide +kernel) ⟨by rw [hR]; exact Nat.le_of_ble_eq_true rfl, by rw [hR]; exact Nat.le_of_ble_eq_true rfl⟩) hP hD hE hT hS hA [1] rfl (by decide) (va_recv hK hP (ci := 5) (q0 := 1) rfl rfl) rfl hl.1 rfl (Nat.le_of_ble_eq_true rfl) dX2_follow_4 ⟨by rw [hR]; exact Nat.le_of_ble_eq_true rfl, by rw [hR]; exact Nat.le_of_ble_eq_true rfl⟩) hP hD hS hA [1] [0, 2] rfl rfl (by decide) (by decide) (fun r4 u H locs hw hP hD hS => ?_)
  obtain rfl := hw
  have hP : va_P D vwCl [(h0, .inr (2, [.ref sc, .ref rd, .ref ib, .int (nI 1), .int lv, .int rk, .int (nI on), .int (nI qt), .int (nI lb)])), (rd, .inr (4, [.int (nI tgt), .ref ba, .int nb, .int g, .int gb, .int st, .int fa, .int bt])), (sc, .inr (5, [.int (nI ear)]))] H := hP
  have hD : va_D A [(h0, .inr (2, [.ref sc, .ref rd, .ref ib, .int (nI 1), .int lv, .int rk, .int (nI on), .int (nI qt), .int (nI lb)])), (rd, .inr (4, [.int (nI tgt), .ref ba, .int nb, .int g, .int gb, .int st, .int fa, .int bt])), (sc, .inr (5, [.int (nI ear)]))] := hD
  refine lv_istore_n (lv' := [(2, .int (nI (kN ear))), (0, .ref h0), (1, .int (nI mk))]) hx hb dX2_follow_7 rfl hl (by decide) rfl (fun ls hl => ?_)
  refine lv_iload_n hx hb dX2_follow_8 rfl (lv_at hl 2 rfl) ?_
  refine lv_iload_n hx hb dX2_follow_9 rfl (lv_at hl 0 rfl) ?_
  refine lv_ixor hx hb dX2_follow_10 ?_
  refine lv_to (y := nI (plN mk ear)) (xr hm (kN_lt ear)) ?_
  refine lv_istore_n (lv' := [(3, .int (nI (plN mk ear))), (2, .int (nI (kN ear))), (0, .ref h0), (1, .int (nI mk))]) hx hb dX2_follow_11 rfl hl (by decide) rfl (fun ls hl => ?_)
  refine lv_aload_n hx hb dX2_follow_12 rfl (lv_at hl 2 rfl) ?_
  refine va_get (D := D) (ci := 2) (v := .ref sc) (C := RX2) (T := TX2) (N := 9) hx hb hts inX2_follow_X2 hown hK hP 0 rfl rfl 0 (by decide) (hts (.fieldLink RX2 14 "ScrambledLine$Listener" "scrambler" "LScrambledLine$Scrambler;") (by decide +kernel)) (fun _ h9 => h9) rfl dX2_follow_13 ?_
  refine lv_iload_n hx hb dX2_follow_16 rfl (lv_at hl 1 rfl) ?_
  refine ca_v (wr := [(h0, .inr (2, [.ref sc, .ref rd, .ref ib, .int (nI 1), .int lv, .int rk, .int (nI on), .int (nI qt), .int (nI lb)])), (rd, .inr (4, [.int (nI tgt), .ref ba, .int nb, .int g, .int gb, .int st, .int fa, .int bt]))]) (ru_V (As := [.int (nI (kN ear))]) (rest := []) ⟨hx, hb, hml, hown, hts⟩ (c_X5_shiftIn l D cI cG tt H.size sc ear (kN ear) (by omega) (by omega)) (cwV 1 hts gX2_follow_X5_shiftIn rfl rfl rfl (by decide +kernel) ⟨by rw [hR]; exact Nat.le_of_ble_eq_true rfl, by rw [hR]; exact Nat.le_of_ble_eq_true rfl⟩) hP hD hE hT hS hA [2] rfl (by decide) (va_recv hK hP (ci := 5) (q0 := 2) rfl rfl) rfl hl.1 rfl (Nat.le_of_ble_eq_true rfl) dX2_follow_17 ⟨by rw [hR]; exact Nat.le_of_ble_eq_true rfl, by rw [hR]; exact Nat.le_of_ble_eq_true rfl⟩) hP hD hS hA [2] [0, 1] rfl rfl (by decide) (by decide) (fun u H locs hw hP hD hS => ?_)
  have hP : va_P D vwCl [(h0, .inr (2, [.ref sc, .ref rd, .ref ib, .int (nI 1), .int lv, .int rk, .int (nI on), .int (nI qt), .int (nI lb)])), (rd, .inr (4, [.int (nI tgt), .ref ba, .int nb, .int g, .int gb, .int st, .int fa, .int bt])), (sc, .inr (5, [.int (nI (rN ear (kN ear)))]))] H := hP
  have hD : va_D A [(h0, .inr (2, [.ref sc, .ref rd, .ref ib, .int (nI 1), .int lv, .int rk, .int (nI on), .int (nI qt), .int (nI lb)])), (rd, .inr (4, [.int (nI tgt), .ref ba, .int nb, .int g, .int gb, .int st, .int fa, .int bt])), (sc, .inr (5, [.int (nI (rN ear (kN ear)))]))] := hD
  refine lv_aload_n hx hb dX2_follow_20 rfl (lv_at hl 2 rfl) ?_
  refine lv_iload_n hx hb dX2_follow_21 rfl (lv_at hl 0 rfl) ?_
  refine ca_v (wr := [(rd, .inr (4, [.int (nI tgt), .ref ba, .int nb, .int g, .int gb, .int st, .int fa, .int bt])), (sc, .inr (5, [.int (nI (rN ear (kN ear)))]))]) (ru_V (As := [.int (nI (plN mk ear))]) (rest := []) ⟨hx, hb, hml, hown, hts⟩ (c_X2_countQuiet l D cI cG tt H.size h0 sc rd ib (nI 1) lv rk on qt (nI lb) (plN mk ear) (by omega) (by omega) (by omega)) (cwV 1 hts gX2_follow_X2_countQuiet rfl rfl rfl (by decide +kernel) ⟨by rw [hR]; exact Nat.le_of_ble_eq_true rfl, by rw [hR]; exact Nat.le_of_ble_eq_true rfl⟩) hP hD hE hT hS hA [0] rfl (by decide) (va_recv hK hP (ci := 2) (q0 := 0) rfl rfl) rfl hl.1 rfl (Nat.le_of_ble_eq_true rfl) dX2_follow_22 ⟨by rw [hR]; exact Nat.le_of_ble_eq_true rfl, by rw [hR]; exact Nat.le_of_ble_eq_true rfl⟩) hP hD hS hA [0] [1, 2] rfl rfl (by decide) (by decide) (fun u H locs hw hP hD hS => ?_)
  have hP : va_P D vwCl [(rd, .inr (4, [.int (nI tgt), .ref ba, .int nb, .int g, .int gb, .int st, .int fa, .int bt])), (sc, .inr (5, [.int (nI (rN ear (kN ear)))])), (h0, .inr (2, [.ref sc, .ref rd, .ref ib, .int (nI 1), .int lv, .int rk, .int (nI (onN (plN mk ear) on)), .int (nI (qtN (onN (plN mk ear) on) qt)), .int (nI lb)]))] H := hP
  have hD : va_D A [(rd, .inr (4, [.int (nI tgt), .ref ba, .int nb, .int g, .int gb, .int st, .int fa, .int bt])), (sc, .inr (5, [.int (nI (rN ear (kN ear)))])), (h0, .inr (2, [.ref sc, .ref rd, .ref ib, .int (nI 1), .int lv, .int rk, .int (nI (onN (plN mk ear) on)), .int (nI (qtN (onN (plN mk ear) on) qt)), .int (nI lb)]))] := hD
  refine lv_aload_n hx hb dX2_follow_25 rfl (lv_at hl 2 rfl) ?_
  refine va_get (D := D) (ci := 2) (v := .int (nI (qtN (onN (plN mk ear) on) qt))) (C := RX2) (T := TX2) (N := 9) hx hb hts inX2_follow_X2 hown hK hP 2 rfl rfl 7 (by decide) (hts (.fieldLink RX2 40 "ScrambledLine$Listener" "quiet" "I") (by decide +kernel)) (fun _ h9 => h9) rfl dX2_follow_26 ?_
  refine lv_sipush (v := nI 400) hx hb dX2_follow_29 rfl ?_
  refine lv_icmp_lt (tgt := 40) hx hb dX2_follow_32 (by decide) (fun c32 => ?_) (fun c32 => ?_)
  · skip
    have k32 : (qtN (onN (plN mk ear) on) qt) < 400 := (nI_ltI (a := (qtN (onN (plN mk ear) on) qt)) (b := 400) (by omega) (by omega)).mp c32
    exact False.elim (by omega)
  · skip
    have k32 : ¬ (qtN (onN (plN mk ear) on) qt) < 400 := fun zq => c32 ((nI_ltI (a := (qtN (onN (plN mk ear) on) qt)) (b := 400) (by omega) (by omega)).mpr zq)
    refine lv_aload_n hx hb dX2_follow_35 rfl (lv_at hl 2 rfl) ?_
    refine ca_i (wr := [(rd, .inr (4, [.int (nI tgt), .ref ba, .int nb, .int g, .int gb, .int st, .int fa, .int bt])), (sc, .inr (5, [.int (nI (rN ear (kN ear)))]))]) (ru_V (As := []) (rest := []) ⟨hx, hb, hml, hown, hts⟩ (c_X2_loseLock l D cI cG tt H.size h0 sc rd ib 1 lv rk (nI (onN (plN mk ear) on)) (nI (qtN (onN (plN mk ear) on) qt)) (nI lb) (by omega)) (cwV 0 hts gX2_follow_X2_loseLock rfl rfl rfl (by decide +kernel) ⟨by rw [hR]; exact Nat.le_of_ble_eq_true rfl, by rw [hR]; exact Nat.le_of_ble_eq_true rfl⟩) hP hD hE hT hS hA [2] rfl (by decide) (va_recv hK hP (ci := 2) (q0 := 2) rfl rfl) rfl hl.1 rfl (Nat.le_of_ble_eq_true rfl) dX2_follow_36 ⟨by rw [hR]; exact Nat.le_of_ble_eq_true rfl, by rw [hR]; exact Nat.le_of_ble_eq_true rfl⟩) hP hD hS hA [2] [0, 1] rfl rfl (by decide) (by decide) (fun r36 u H locs hw hP hD hS => ?_)
    obtain rfl := hw
    have hP : va_P D vwCl [(rd, .inr (4, [.int (nI tgt), .ref ba, .int nb, .int g, .int gb, .int st, .int fa, .int bt])), (sc, .inr (5, [.int (nI (rN ear (kN ear)))])), (h0, .inr (2, [.ref sc, .ref rd, .ref ib, .int (nI 0), .int lv, .int (nI 0), .int (nI (onN (plN mk ear) on)), .int (nI (qtN (onN (plN mk ear) on) qt)), .int (nI lb)]))] H := hP
    have hD : va_D A [(rd, .inr (4, [.int (nI tgt), .ref ba, .int nb, .int g, .int gb, .int st, .int fa, .int bt])), (sc, .inr (5, [.int (nI (rN ear (kN ear)))])), (h0, .inr (2, [.ref sc, .ref rd, .ref ib, .int (nI 0), .int lv, .int (nI 0), .int (nI (onN (plN mk ear) on)), .int (nI (qtN (onN (plN mk ear) on) qt)), .int (nI lb)]))] := hD
    refine W_q hQ ?_
    exact rt_i () hx hb hr hlocks dX2_follow_39 hS (hP.sub [2, 1, 0] rfl) (hD.sub [2, 1, 0] (by decide) rfl) rfl

set_option maxHeartbeats 4000000 in
set_option maxRecDepth 100000 in
theorem c_X2_follow_hunt_no (l : Launch) (D : va_G) (cI cG : ClassId) (tt : Nat × Nat × Nat) (sz : Nat) (h0 : Nat) (sc : Nat) (rd : Nat) (ib : Nat) (lv : Int32) (rk : Int32) (on : Nat) (qt : Nat) (lb : Nat) (ear : Nat) (ba : Nat) (tgt : Nat) (nb : Int32) (g : Int32) (gb : Int32) (st : Int32) (fa : Int32) (bt : Int32) (mk : Nat) (hm : mk < 2) (hear : ear < 2048) (hon : on ≤ 10) (hqt : qt < 400) (hq : ¬ qtN (onN (plN mk ear) on) qt = 400) (hlb : lb < 1024) (hh : ¬ (2 * lb + plN mk ear) % 1024 = 785) : Met l yX2_follow wsX2_follow ({ frames := 5, cells := 0, slots := 0, locals := 98 }) (PC D cI cG tt [.ref h0, .int (nI mk)] [(h0, .inr (2, [.ref sc, .ref rd, .ref ib, .int (nI 1), .int lv, .int rk, .int (nI on), .int (nI qt), .int (nI lb)])), (sc, .inr (5, [.int (nI ear)])), (rd, .inr (4, [.int (nI tgt), .ref ba, .int nb, .int g, .int gb, .int st, .int fa, .int bt]))] sz) (QI (fun (r : Int32) (u : Unit) => r = (-1)) (fun (u : Unit) => [(h0, .inr (2, [.ref sc, .ref rd, .ref ib, .int (nI 1), .int lv, .int rk, .int (nI (onN (plN mk ear) on)), .int (nI (qtN (onN (plN mk ear) on) qt)), .int (nI ((2 * lb + plN mk ear) % 1024))])), (sc, .inr (5, [.int (nI (rN ear (kN ear)))])), (rd, .inr (4, [.int (nI tgt), .ref ba, .int nb, .int g, .int gb, .int st, .int fa, .int bt]))]) D (va_A [(h0, .inr (2, [.ref sc, .ref rd, .ref ib, .int (nI 1), .int lv, .int rk, .int (nI on), .int (nI qt), .int (nI lb)])), (sc, .inr (5, [.int (nI ear)])), (rd, .inr (4, [.int (nI tgt), .ref ba, .int nb, .int g, .int gb, .int st, .int fa, .int bt]))] sz)) 0 0 (va_A [(h0, .inr (2, [.ref sc, .ref rd, .ref ib, .int (nI 1), .int lv, .int rk, .int (nI on), .int (nI qt), .int (nI lb)])), (sc, .inr (5, [.int (nI ear)])), (rd, .inr (4, [.int (nI tgt), .ref ba, .int nb, .int g, .int gb, .int st, .int fa, .int bt]))] sz) := by
  refine ct_of (y := yX2_follow) (cc := cX2_follow) (maxL := 5) (ret := (some .int)) (Qf := QI (fun (r : Int32) (u : Unit) => r = (-1)) (fun (u : Unit) => [(h0, .inr (2, [.ref sc, .ref rd, .ref ib, .int (nI 1), .int lv, .int rk, .int (nI (onN (plN mk ear) on)), .int (nI (qtN (onN (plN mk ear) on) qt)), .int (nI ((2 * lb + plN mk ear) % 1024))])), (sc, .inr (5, [.int (nI (rN ear (kN ear)))])), (rd, .inr (4, [.int (nI tgt), .ref ba, .int nb, .int g, .int gb, .int st, .int fa, .int bt]))]) D) (by decide) rfl ?_
  intro p e s m args below meth c A Q R H locs hR hQ hx hb hml hr hts hown hlocks hin hP hD hE hT hA hS
  have hK := hE.1
  have hl := lv_entry ([.ref h0, .int (nI mk)]) (n := 5) (Nat.le_of_ble_eq_true rfl)
  rw [lg_entry_eq]
  generalize (lg_sl ([.ref h0, .int (nI mk)]) ++ List.replicate (5 - (lg_sl ([.ref h0, .int (nI mk)])).length) Slot.unset).toArray = ls at hl ⊢
  have hl : lv_has ls 5 [(0, .ref h0), (1, .int (nI mk))] := hl
  have hk2 := kN_lt ear
  have hp2 := plN_lt mk ear
  have hq4 := qtN_le (onN (plN mk ear) on) qt
  have ho4 := onN_le (plN mk ear) on
  refine lv_aload_n hx hb dX2_follow_0 rfl (lv_at hl 0 rfl) ?_
  refine va_get (D := D) (ci := 2) (v := .ref sc) (C := RX2) (T := TX2) (N := 9) hx hb hts inX2_follow_X2 hown hK hP 0 rfl rfl 0 (by decide) (hts (.fieldLink RX2 14 "ScrambledLine$Listener" "scrambler" "LScrambledLine$Scrambler;") (by decide +kernel)) (fun _ h9 => h9) rfl dX2_follow_1 ?_
  refine ca_i (wr := [(h0, .inr (2, [.ref sc, .ref rd, .ref ib, .int (nI 1), .int lv, .int rk, .int (nI on), .int (nI qt), .int (nI lb)])), (rd, .inr (4, [.int (nI tgt), .ref ba, .int nb, .int g, .int gb, .int st, .int fa, .int bt]))]) (ru_V (As := []) (rest := []) ⟨hx, hb, hml, hown, hts⟩ (c_X5_key l D cI cG tt H.size sc ear (by omega)) (cwV 0 hts gX2_follow_X5_key rfl rfl rfl (by decide +kernel) ⟨by rw [hR]; exact Nat.le_of_ble_eq_true rfl, by rw [hR]; exact Nat.le_of_ble_eq_true rfl⟩) hP hD hE hT hS hA [1] rfl (by decide) (va_recv hK hP (ci := 5) (q0 := 1) rfl rfl) rfl hl.1 rfl (Nat.le_of_ble_eq_true rfl) dX2_follow_4 ⟨by rw [hR]; exact Nat.le_of_ble_eq_true rfl, by rw [hR]; exact Nat.le_of_ble_eq_true rfl⟩) hP hD hS hA [1] [0, 2] rfl rfl (by decide) (by decide) (fun r4 u H locs hw hP hD hS => ?_)
  obtain rfl := hw
  have hP : va_P D vwCl [(h0, .inr (2, [.ref sc, .ref rd, .ref ib, .int (nI 1), .int lv, .int rk, .int (nI on), .int (nI qt), .int (nI lb)])), (rd, .inr (4, [.int (nI tgt), .ref ba, .int nb, .int g, .int gb, .int st, .int fa, .int bt])), (sc, .inr (5, [.int (nI ear)]))] H := hP
  have hD : va_D A [(h0, .inr (2, [.ref sc, .ref rd, .ref ib, .int (nI 1), .int lv, .int rk, .int (nI on), .int (nI qt), .int (nI lb)])), (rd, .inr (4, [.int (nI tgt), .ref ba, .int nb, .int g, .int gb, .int st, .int fa, .int bt])), (sc, .inr (5, [.int (nI ear)]))] := hD
  refine lv_istore_n (lv' := [(2, .int (nI (kN ear))), (0, .ref h0), (1, .int (nI mk))]) hx hb dX2_follow_7 rfl hl (by decide) rfl (fun ls hl => ?_)
  refine lv_iload_n hx hb dX2_follow_8 rfl (lv_at hl 2 rfl) ?_
  refine lv_iload_n hx hb dX2_follow_9 rfl (lv_at hl 0 rfl) ?_
  refine lv_ixor hx hb dX2_follow_10 ?_
  refine lv_to (y := nI (plN mk ear)) (xr hm (kN_lt ear)) ?_
  refine lv_istore_n (lv' := [(3, .int (nI (plN mk ear))), (2, .int (nI (kN ear))), (0, .ref h0), (1, .int (nI mk))]) hx hb dX2_follow_11 rfl hl (by decide) rfl (fun ls hl => ?_)
  refine lv_aload_n hx hb dX2_follow_12 rfl (lv_at hl 2 rfl) ?_
  refine va_get (D := D) (ci := 2) (v := .ref sc) (C := RX2) (T := TX2) (N := 9) hx hb hts inX2_follow_X2 hown hK hP 0 rfl rfl 0 (by decide) (hts (.fieldLink RX2 14 "ScrambledLine$Listener" "scrambler" "LScrambledLine$Scrambler;") (by decide +kernel)) (fun _ h9 => h9) rfl dX2_follow_13 ?_
  refine lv_iload_n hx hb dX2_follow_16 rfl (lv_at hl 1 rfl) ?_
  refine ca_v (wr := [(h0, .inr (2, [.ref sc, .ref rd, .ref ib, .int (nI 1), .int lv, .int rk, .int (nI on), .int (nI qt), .int (nI lb)])), (rd, .inr (4, [.int (nI tgt), .ref ba, .int nb, .int g, .int gb, .int st, .int fa, .int bt]))]) (ru_V (As := [.int (nI (kN ear))]) (rest := []) ⟨hx, hb, hml, hown, hts⟩ (c_X5_shiftIn l D cI cG tt H.size sc ear (kN ear) (by omega) (by omega)) (cwV 1 hts gX2_follow_X5_shiftIn rfl rfl rfl (by decide +kernel) ⟨by rw [hR]; exact Nat.le_of_ble_eq_true rfl, by rw [hR]; exact Nat.le_of_ble_eq_true rfl⟩) hP hD hE hT hS hA [2] rfl (by decide) (va_recv hK hP (ci := 5) (q0 := 2) rfl rfl) rfl hl.1 rfl (Nat.le_of_ble_eq_true rfl) dX2_follow_17 ⟨by rw [hR]; exact Nat.le_of_ble_eq_true rfl, by rw [hR]; exact Nat.le_of_ble_eq_true rfl⟩) hP hD hS hA [2] [0, 1] rfl rfl (by decide) (by decide) (fun u H locs hw hP hD hS => ?_)
  have hP : va_P D vwCl [(h0, .inr (2, [.ref sc, .ref rd, .ref ib, .int (nI 1), .int lv, .int rk, .int (nI on), .int (nI qt), .int (nI lb)])), (rd, .inr (4, [.int (nI tgt), .ref ba, .int nb, .int g, .int gb, .int st, .int fa, .int bt])), (sc, .inr (5, [.int (nI (rN ear (kN ear)))]))] H := hP
  have hD : va_D A [(h0, .inr (2, [.ref sc, .ref rd, .ref ib, .int (nI 1), .int lv, .int rk, .int (nI on), .int (nI qt), .int (nI lb)])), (rd, .inr (4, [.int (nI tgt), .ref ba, .int nb, .int g, .int gb, .int st, .int fa, .int bt])), (sc, .inr (5, [.int (nI (rN ear (kN ear)))]))] := hD
  refine lv_aload_n hx hb dX2_follow_20 rfl (lv_at hl 2 rfl) ?_
  refine lv_iload_n hx hb dX2_follow_21 rfl (lv_at hl 0 rfl) ?_
  refine ca_v (wr := [(rd, .inr (4, [.int (nI tgt), .ref ba, .int nb, .int g, .int gb, .int st, .int fa, .int bt])), (sc, .inr (5, [.int (nI (rN ear (kN ear)))]))]) (ru_V (As := [.int (nI (plN mk ear))]) (rest := []) ⟨hx, hb, hml, hown, hts⟩ (c_X2_countQuiet l D cI cG tt H.size h0 sc rd ib (nI 1) lv rk on qt (nI lb) (plN mk ear) (by omega) (by omega) (by omega)) (cwV 1 hts gX2_follow_X2_countQuiet rfl rfl rfl (by decide +kernel) ⟨by rw [hR]; exact Nat.le_of_ble_eq_true rfl, by rw [hR]; exact Nat.le_of_ble_eq_true rfl⟩) hP hD hE hT hS hA [0] rfl (by decide) (va_recv hK hP (ci := 2) (q0 := 0) rfl rfl) rfl hl.1 rfl (Nat.le_of_ble_eq_true rfl) dX2_follow_22 ⟨by rw [hR]; exact Nat.le_of_ble_eq_true rfl, by rw [hR]; exact Nat.le_of_ble_eq_true rfl⟩) hP hD hS hA [0] [1, 2] rfl rfl (by decide) (by decide) (fun u H locs hw hP hD hS => ?_)
  have hP : va_P D vwCl [(rd, .inr (4, [.int (nI tgt), .ref ba, .int nb, .int g, .int gb, .int st, .int fa, .int bt])), (sc, .inr (5, [.int (nI (rN ear (kN ear)))])), (h0, .inr (2, [.ref sc, .ref rd, .ref ib, .int (nI 1), .int lv, .int rk, .int (nI (onN (plN mk ear) on)), .int (nI (qtN (onN (plN mk ear) on) qt)), .int (nI lb)]))] H := hP
  have hD : va_D A [(rd, .inr (4, [.int (nI tgt), .ref ba, .int nb, .int g, .int gb, .int st, .int fa, .int bt])), (sc, .inr (5, [.int (nI (rN ear (kN ear)))])), (h0, .inr (2, [.ref sc, .ref rd, .ref ib, .int (nI 1), .int lv, .int rk, .int (nI (onN (plN mk ear) on)), .int (nI (qtN (onN (plN mk ear) on) qt)), .int (nI lb)]))] := hD
  refine lv_aload_n hx hb dX2_follow_25 rfl (lv_at hl 2 rfl) ?_
  refine va_get (D := D) (ci := 2) (v := .int (nI (qtN (onN (plN mk ear) on) qt))) (C := RX2) (T := TX2) (N := 9) hx hb hts inX2_follow_X2 hown hK hP 2 rfl rfl 7 (by decide) (hts (.fieldLink RX2 40 "ScrambledLine$Listener" "quiet" "I") (by decide +kernel)) (fun _ h9 => h9) rfl dX2_follow_26 ?_
  refine lv_sipush (v := nI 400) hx hb dX2_follow_29 rfl ?_
  refine lv_icmp_lt (tgt := 40) hx hb dX2_follow_32 (by decide) (fun c32 => ?_) (fun c32 => ?_)
  · skip
    have k32 : (qtN (onN (plN mk ear) on) qt) < 400 := (nI_ltI (a := (qtN (onN (plN mk ear) on) qt)) (b := 400) (by omega) (by omega)).mp c32
    refine lv_aload_n hx hb dX2_follow_40 rfl (lv_at hl 2 rfl) ?_
    refine va_get (D := D) (ci := 2) (v := .int (nI 1)) (C := RX2) (T := TX2) (N := 9) hx hb hts inX2_follow_X2 hown hK hP 2 rfl rfl 3 (by decide) (hts (.fieldLink RX2 27 "ScrambledLine$Listener" "mode" "I") (by decide +kernel)) (fun _ h9 => h9) rfl dX2_follow_41 ?_
    refine lv_iconst (v := nI 1) hx hb dX2_follow_44 rfl ?_
    refine lv_icmp_ne (tgt := 55) hx hb dX2_follow_45 (by decide) (fun c45 => ?_) (fun c45 => ?_)
    · skip
      have k45 : ¬ 1 = 1 := fun zq => c45 ((nI_eq (a := 1) (b := 1) (by omega) (by omega)).mpr zq)
      exact False.elim (by omega)
    · skip
      have k45 : 1 = 1 := (nI_eq (a := 1) (b := 1) (by omega) (by omega)).mp c45
      refine lv_aload_n hx hb dX2_follow_48 rfl (lv_at hl 2 rfl) ?_
      refine lv_iload_n hx hb dX2_follow_49 rfl (lv_at hl 0 rfl) ?_
      refine ca_v (wr := [(sc, .inr (5, [.int (nI (rN ear (kN ear)))]))]) (ru_V (As := [.int (nI (plN mk ear))]) (rest := []) ⟨hx, hb, hml, hown, hts⟩ (c_X2_hunt_no l D cI cG tt H.size h0 sc rd ib (nI 1) lv rk (nI (onN (plN mk ear) on)) (nI (qtN (onN (plN mk ear) on) qt)) lb ba tgt nb g gb st fa bt (plN mk ear) (by omega) (by omega) (by omega)) (cwV 1 hts gX2_follow_X2_hunt rfl rfl rfl (by decide +kernel) ⟨by rw [hR]; exact Nat.le_of_ble_eq_true rfl, by rw [hR]; exact Nat.le_of_ble_eq_true rfl⟩) hP hD hE hT hS hA [2, 0] rfl (by decide) (va_recv hK hP (ci := 2) (q0 := 2) rfl rfl) rfl hl.1 rfl (Nat.le_of_ble_eq_true rfl) dX2_follow_50 ⟨by rw [hR]; exact Nat.le_of_ble_eq_true rfl, by rw [hR]; exact Nat.le_of_ble_eq_true rfl⟩) hP hD hS hA [2, 0] [1] rfl rfl (by decide) (by decide) (fun u H locs hw hP hD hS => ?_)
      have hP : va_P D vwCl [(sc, .inr (5, [.int (nI (rN ear (kN ear)))])), (h0, .inr (2, [.ref sc, .ref rd, .ref ib, .int (nI 1), .int lv, .int rk, .int (nI (onN (plN mk ear) on)), .int (nI (qtN (onN (plN mk ear) on) qt)), .int (nI ((2 * lb + (plN mk ear)) % 1024))])), (rd, .inr (4, [.int (nI tgt), .ref ba, .int nb, .int g, .int gb, .int st, .int fa, .int bt]))] H := hP
      have hD : va_D A [(sc, .inr (5, [.int (nI (rN ear (kN ear)))])), (h0, .inr (2, [.ref sc, .ref rd, .ref ib, .int (nI 1), .int lv, .int rk, .int (nI (onN (plN mk ear) on)), .int (nI (qtN (onN (plN mk ear) on) qt)), .int (nI ((2 * lb + (plN mk ear)) % 1024))])), (rd, .inr (4, [.int (nI tgt), .ref ba, .int nb, .int g, .int gb, .int st, .int fa, .int bt]))] := hD
      refine lv_iconst (v := (-1)) hx hb dX2_follow_53 rfl ?_
      refine W_q hQ ?_
      exact rt_i () hx hb hr hlocks dX2_follow_54 hS (hP.sub [1, 0, 2] rfl) (hD.sub [1, 0, 2] (by decide) rfl) rfl
  · skip
    have k32 : ¬ (qtN (onN (plN mk ear) on) qt) < 400 := fun zq => c32 ((nI_ltI (a := (qtN (onN (plN mk ear) on) qt)) (b := 400) (by omega) (by omega)).mpr zq)
    exact False.elim (by omega)

set_option maxHeartbeats 4000000 in
set_option maxRecDepth 100000 in
theorem c_X2_follow_hunt_yes (l : Launch) (D : va_G) (cI cG : ClassId) (tt : Nat × Nat × Nat) (sz : Nat) (h0 : Nat) (sc : Nat) (rd : Nat) (ib : Nat) (lv : Int32) (rk : Int32) (on : Nat) (qt : Nat) (lb : Nat) (ear : Nat) (ba : Nat) (tgt : Nat) (nb : Int32) (g : Int32) (gb : Int32) (st : Int32) (fa : Int32) (bt : Int32) (mk : Nat) (hm : mk < 2) (hear : ear < 2048) (hon : on ≤ 10) (hqt : qt < 400) (hq : ¬ qtN (onN (plN mk ear) on) qt = 400) (hlb : lb < 1024) (hh : (2 * lb + plN mk ear) % 1024 = 785) : Met l yX2_follow wsX2_follow ({ frames := 5, cells := 0, slots := 0, locals := 98 }) (PC D cI cG tt [.ref h0, .int (nI mk)] [(h0, .inr (2, [.ref sc, .ref rd, .ref ib, .int (nI 1), .int lv, .int rk, .int (nI on), .int (nI qt), .int (nI lb)])), (sc, .inr (5, [.int (nI ear)])), (rd, .inr (4, [.int (nI tgt), .ref ba, .int nb, .int g, .int gb, .int st, .int fa, .int bt]))] sz) (QI (fun (r : Int32) (u : Unit) => r = (-1)) (fun (u : Unit) => [(h0, .inr (2, [.ref sc, .ref rd, .ref ib, .int (nI 2), .int lv, .int rk, .int (nI (onN (plN mk ear) on)), .int (nI (qtN (onN (plN mk ear) on) qt)), .int (nI ((2 * lb + plN mk ear) % 1024))])), (sc, .inr (5, [.int (nI (rN ear (kN ear)))])), (rd, .inr (4, [.int (nI tgt), .ref ba, .int (nI 0), .int (nI 0), .int (nI 0), .int (nI 0), .int (nI 0), .int (nI 0)]))]) D (va_A [(h0, .inr (2, [.ref sc, .ref rd, .ref ib, .int (nI 1), .int lv, .int rk, .int (nI on), .int (nI qt), .int (nI lb)])), (sc, .inr (5, [.int (nI ear)])), (rd, .inr (4, [.int (nI tgt), .ref ba, .int nb, .int g, .int gb, .int st, .int fa, .int bt]))] sz)) 0 0 (va_A [(h0, .inr (2, [.ref sc, .ref rd, .ref ib, .int (nI 1), .int lv, .int rk, .int (nI on), .int (nI qt), .int (nI lb)])), (sc, .inr (5, [.int (nI ear)])), (rd, .inr (4, [.int (nI tgt), .ref ba, .int nb, .int g, .int gb, .int st, .int fa, .int bt]))] sz) := by
  refine ct_of (y := yX2_follow) (cc := cX2_follow) (maxL := 5) (ret := (some .int)) (Qf := QI (fun (r : Int32) (u : Unit) => r = (-1)) (fun (u : Unit) => [(h0, .inr (2, [.ref sc, .ref rd, .ref ib, .int (nI 2), .int lv, .int rk, .int (nI (onN (plN mk ear) on)), .int (nI (qtN (onN (plN mk ear) on) qt)), .int (nI ((2 * lb + plN mk ear) % 1024))])), (sc, .inr (5, [.int (nI (rN ear (kN ear)))])), (rd, .inr (4, [.int (nI tgt), .ref ba, .int (nI 0), .int (nI 0), .int (nI 0), .int (nI 0), .int (nI 0), .int (nI 0)]))]) D) (by decide) rfl ?_
  intro p e s m args below meth c A Q R H locs hR hQ hx hb hml hr hts hown hlocks hin hP hD hE hT hA hS
  have hK := hE.1
  have hl := lv_entry ([.ref h0, .int (nI mk)]) (n := 5) (Nat.le_of_ble_eq_true rfl)
  rw [lg_entry_eq]
  generalize (lg_sl ([.ref h0, .int (nI mk)]) ++ List.replicate (5 - (lg_sl ([.ref h0, .int (nI mk)])).length) Slot.unset).toArray = ls at hl ⊢
  have hl : lv_has ls 5 [(0, .ref h0), (1, .int (nI mk))] := hl
  have hk2 := kN_lt ear
  have hp2 := plN_lt mk ear
  have hq4 := qtN_le (onN (plN mk ear) on) qt
  have ho4 := onN_le (plN mk ear) on
  refine lv_aload_n hx hb dX2_follow_0 rfl (lv_at hl 0 rfl) ?_
  refine va_get (D := D) (ci := 2) (v := .ref sc) (C := RX2) (T := TX2) (N := 9) hx hb hts inX2_follow_X2 hown hK hP 0 rfl rfl 0 (by decide) (hts (.fieldLink RX2 14 "ScrambledLine$Listener" "scrambler" "LScrambledLine$Scrambler;") (by decide +kernel)) (fun _ h9 => h9) rfl dX2_follow_1 ?_
  refine ca_i (wr := [(h0, .inr (2, [.ref sc, .ref rd, .ref ib, .int (nI 1), .int lv, .int rk, .int (nI on), .int (nI qt), .int (nI lb)])), (rd, .inr (4, [.int (nI tgt), .ref ba, .int nb, .int g, .int gb, .int st, .int fa, .int bt]))]) (ru_V (As := []) (rest := []) ⟨hx, hb, hml, hown, hts⟩ (c_X5_key l D cI cG tt H.size sc ear (by omega)) (cwV 0 hts gX2_follow_X5_key rfl rfl rfl (by decide +kernel) ⟨by rw [hR]; exact Nat.le_of_ble_eq_true rfl, by rw [hR]; exact Nat.le_of_ble_eq_true rfl⟩) hP hD hE hT hS hA [1] rfl (by decide) (va_recv hK hP (ci := 5) (q0 := 1) rfl rfl) rfl hl.1 rfl (Nat.le_of_ble_eq_true rfl) dX2_follow_4 ⟨by rw [hR]; exact Nat.le_of_ble_eq_true rfl, by rw [hR]; exact Nat.le_of_ble_eq_true rfl⟩) hP hD hS hA [1] [0, 2] rfl rfl (by decide) (by decide) (fun r4 u H locs hw hP hD hS => ?_)
  obtain rfl := hw
  have hP : va_P D vwCl [(h0, .inr (2, [.ref sc, .ref rd, .ref ib, .int (nI 1), .int lv, .int rk, .int (nI on), .int (nI qt), .int (nI lb)])), (rd, .inr (4, [.int (nI tgt), .ref ba, .int nb, .int g, .int gb, .int st, .int fa, .int bt])), (sc, .inr (5, [.int (nI ear)]))] H := hP
  have hD : va_D A [(h0, .inr (2, [.ref sc, .ref rd, .ref ib, .int (nI 1), .int lv, .int rk, .int (nI on), .int (nI qt), .int (nI lb)])), (rd, .inr (4, [.int (nI tgt), .ref ba, .int nb, .int g, .int gb, .int st, .int fa, .int bt])), (sc, .inr (5, [.int (nI ear)]))] := hD
  refine lv_istore_n (lv' := [(2, .int (nI (kN ear))), (0, .ref h0), (1, .int (nI mk))]) hx hb dX2_follow_7 rfl hl (by decide) rfl (fun ls hl => ?_)
  refine lv_iload_n hx hb dX2_follow_8 rfl (lv_at hl 2 rfl) ?_
  refine lv_iload_n hx hb dX2_follow_9 rfl (lv_at hl 0 rfl) ?_
  refine lv_ixor hx hb dX2_follow_10 ?_
  refine lv_to (y := nI (plN mk ear)) (xr hm (kN_lt ear)) ?_
  refine lv_istore_n (lv' := [(3, .int (nI (plN mk ear))), (2, .int (nI (kN ear))), (0, .ref h0), (1, .int (nI mk))]) hx hb dX2_follow_11 rfl hl (by decide) rfl (fun ls hl => ?_)
  refine lv_aload_n hx hb dX2_follow_12 rfl (lv_at hl 2 rfl) ?_
  refine va_get (D := D) (ci := 2) (v := .ref sc) (C := RX2) (T := TX2) (N := 9) hx hb hts inX2_follow_X2 hown hK hP 0 rfl rfl 0 (by decide) (hts (.fieldLink RX2 14 "ScrambledLine$Listener" "scrambler" "LScrambledLine$Scrambler;") (by decide +kernel)) (fun _ h9 => h9) rfl dX2_follow_13 ?_
  refine lv_iload_n hx hb dX2_follow_16 rfl (lv_at hl 1 rfl) ?_
  refine ca_v (wr := [(h0, .inr (2, [.ref sc, .ref rd, .ref ib, .int (nI 1), .int lv, .int rk, .int (nI on), .int (nI qt), .int (nI lb)])), (rd, .inr (4, [.int (nI tgt), .ref ba, .int nb, .int g, .int gb, .int st, .int fa, .int bt]))]) (ru_V (As := [.int (nI (kN ear))]) (rest := []) ⟨hx, hb, hml, hown, hts⟩ (c_X5_shiftIn l D cI cG tt H.size sc ear (kN ear) (by omega) (by omega)) (cwV 1 hts gX2_follow_X5_shiftIn rfl rfl rfl (by decide +kernel) ⟨by rw [hR]; exact Nat.le_of_ble_eq_true rfl, by rw [hR]; exact Nat.le_of_ble_eq_true rfl⟩) hP hD hE hT hS hA [2] rfl (by decide) (va_recv hK hP (ci := 5) (q0 := 2) rfl rfl) rfl hl.1 rfl (Nat.le_of_ble_eq_true rfl) dX2_follow_17 ⟨by rw [hR]; exact Nat.le_of_ble_eq_true rfl, by rw [hR]; exact Nat.le_of_ble_eq_true rfl⟩) hP hD hS hA [2] [0, 1] rfl rfl (by decide) (by decide) (fun u H locs hw hP hD hS => ?_)
  have hP : va_P D vwCl [(h0, .inr (2, [.ref sc, .ref rd, .ref ib, .int (nI 1), .int lv, .int rk, .int (nI on), .int (nI qt), .int (nI lb)])), (rd, .inr (4, [.int (nI tgt), .ref ba, .int nb, .int g, .int gb, .int st, .int fa, .int bt])), (sc, .inr (5, [.int (nI (rN ear (kN ear)))]))] H := hP
  have hD : va_D A [(h0, .inr (2, [.ref sc, .ref rd, .ref ib, .int (nI 1), .int lv, .int rk, .int (nI on), .int (nI qt), .int (nI lb)])), (rd, .inr (4, [.int (nI tgt), .ref ba, .int nb, .int g, .int gb, .int st, .int fa, .int bt])), (sc, .inr (5, [.int (nI (rN ear (kN ear)))]))] := hD
  refine lv_aload_n hx hb dX2_follow_20 rfl (lv_at hl 2 rfl) ?_
  refine lv_iload_n hx hb dX2_follow_21 rfl (lv_at hl 0 rfl) ?_
  refine ca_v (wr := [(rd, .inr (4, [.int (nI tgt), .ref ba, .int nb, .int g, .int gb, .int st, .int fa, .int bt])), (sc, .inr (5, [.int (nI (rN ear (kN ear)))]))]) (ru_V (As := [.int (nI (plN mk ear))]) (rest := []) ⟨hx, hb, hml, hown, hts⟩ (c_X2_countQuiet l D cI cG tt H.size h0 sc rd ib (nI 1) lv rk on qt (nI lb) (plN mk ear) (by omega) (by omega) (by omega)) (cwV 1 hts gX2_follow_X2_countQuiet rfl rfl rfl (by decide +kernel) ⟨by rw [hR]; exact Nat.le_of_ble_eq_true rfl, by rw [hR]; exact Nat.le_of_ble_eq_true rfl⟩) hP hD hE hT hS hA [0] rfl (by decide) (va_recv hK hP (ci := 2) (q0 := 0) rfl rfl) rfl hl.1 rfl (Nat.le_of_ble_eq_true rfl) dX2_follow_22 ⟨by rw [hR]; exact Nat.le_of_ble_eq_true rfl, by rw [hR]; exact Nat.le_of_ble_eq_true rfl⟩) hP hD hS hA [0] [1, 2] rfl rfl (by decide) (by decide) (fun u H locs hw hP hD hS => ?_)
  have hP : va_P D vwCl [(rd, .inr (4, [.int (nI tgt), .ref ba, .int nb, .int g, .int gb, .int st, .int fa, .int bt])), (sc, .inr (5, [.int (nI (rN ear (kN ear)))])), (h0, .inr (2, [.ref sc, .ref rd, .ref ib, .int (nI 1), .int lv, .int rk, .int (nI (onN (plN mk ear) on)), .int (nI (qtN (onN (plN mk ear) on) qt)), .int (nI lb)]))] H := hP
  have hD : va_D A [(rd, .inr (4, [.int (nI tgt), .ref ba, .int nb, .int g, .int gb, .int st, .int fa, .int bt])), (sc, .inr (5, [.int (nI (rN ear (kN ear)))])), (h0, .inr (2, [.ref sc, .ref rd, .ref ib, .int (nI 1), .int lv, .int rk, .int (nI (onN (plN mk ear) on)), .int (nI (qtN (onN (plN mk ear) on) qt)), .int (nI lb)]))] := hD
  refine lv_aload_n hx hb dX2_follow_25 rfl (lv_at hl 2 rfl) ?_
  refine va_get (D := D) (ci := 2) (v := .int (nI (qtN (onN (plN mk ear) on) qt))) (C := RX2) (T := TX2) (N := 9) hx hb hts inX2_follow_X2 hown hK hP 2 rfl rfl 7 (by decide) (hts (.fieldLink RX2 40 "ScrambledLine$Listener" "quiet" "I") (by decide +kernel)) (fun _ h9 => h9) rfl dX2_follow_26 ?_
  refine lv_sipush (v := nI 400) hx hb dX2_follow_29 rfl ?_
  refine lv_icmp_lt (tgt := 40) hx hb dX2_follow_32 (by decide) (fun c32 => ?_) (fun c32 => ?_)
  · skip
    have k32 : (qtN (onN (plN mk ear) on) qt) < 400 := (nI_ltI (a := (qtN (onN (plN mk ear) on) qt)) (b := 400) (by omega) (by omega)).mp c32
    refine lv_aload_n hx hb dX2_follow_40 rfl (lv_at hl 2 rfl) ?_
    refine va_get (D := D) (ci := 2) (v := .int (nI 1)) (C := RX2) (T := TX2) (N := 9) hx hb hts inX2_follow_X2 hown hK hP 2 rfl rfl 3 (by decide) (hts (.fieldLink RX2 27 "ScrambledLine$Listener" "mode" "I") (by decide +kernel)) (fun _ h9 => h9) rfl dX2_follow_41 ?_
    refine lv_iconst (v := nI 1) hx hb dX2_follow_44 rfl ?_
    refine lv_icmp_ne (tgt := 55) hx hb dX2_follow_45 (by decide) (fun c45 => ?_) (fun c45 => ?_)
    · skip
      have k45 : ¬ 1 = 1 := fun zq => c45 ((nI_eq (a := 1) (b := 1) (by omega) (by omega)).mpr zq)
      exact False.elim (by omega)
    · skip
      have k45 : 1 = 1 := (nI_eq (a := 1) (b := 1) (by omega) (by omega)).mp c45
      refine lv_aload_n hx hb dX2_follow_48 rfl (lv_at hl 2 rfl) ?_
      refine lv_iload_n hx hb dX2_follow_49 rfl (lv_at hl 0 rfl) ?_
      refine ca_v (wr := [(sc, .inr (5, [.int (nI (rN ear (kN ear)))]))]) (ru_V (As := [.int (nI (plN mk ear))]) (rest := []) ⟨hx, hb, hml, hown, hts⟩ (c_X2_hunt_yes l D cI cG tt H.size h0 sc rd ib (nI 1) lv rk (nI (onN (plN mk ear) on)) (nI (qtN (onN (plN mk ear) on) qt)) lb ba tgt nb g gb st fa bt (plN mk ear) (by omega) (by omega) (by omega)) (cwV 1 hts gX2_follow_X2_hunt rfl rfl rfl (by decide +kernel) ⟨by rw [hR]; exact Nat.le_of_ble_eq_true rfl, by rw [hR]; exact Nat.le_of_ble_eq_true rfl⟩) hP hD hE hT hS hA [2, 0] rfl (by decide) (va_recv hK hP (ci := 2) (q0 := 2) rfl rfl) rfl hl.1 rfl (Nat.le_of_ble_eq_true rfl) dX2_follow_50 ⟨by rw [hR]; exact Nat.le_of_ble_eq_true rfl, by rw [hR]; exact Nat.le_of_ble_eq_true rfl⟩) hP hD hS hA [2, 0] [1] rfl rfl (by decide) (by decide) (fun u H locs hw hP hD hS => ?_)
      have hP : va_P D vwCl [(sc, .inr (5, [.int (nI (rN ear (kN ear)))])), (h0, .inr (2, [.ref sc, .ref rd, .ref ib, .int (nI 2), .int lv, .int rk, .int (nI (onN (plN mk ear) on)), .int (nI (qtN (onN (plN mk ear) on) qt)), .int (nI ((2 * lb + (plN mk ear)) % 1024))])), (rd, .inr (4, [.int (nI tgt), .ref ba, .int (nI 0), .int (nI 0), .int (nI 0), .int (nI 0), .int (nI 0), .int (nI 0)]))] H := hP
      have hD : va_D A [(sc, .inr (5, [.int (nI (rN ear (kN ear)))])), (h0, .inr (2, [.ref sc, .ref rd, .ref ib, .int (nI 2), .int lv, .int rk, .int (nI (onN (plN mk ear) on)), .int (nI (qtN (onN (plN mk ear) on) qt)), .int (nI ((2 * lb + (plN mk ear)) % 1024))])), (rd, .inr (4, [.int (nI tgt), .ref ba, .int (nI 0), .int (nI 0), .int (nI 0), .int (nI 0), .int (nI 0), .int (nI 0)]))] := hD
      refine lv_iconst (v := (-1)) hx hb dX2_follow_53 rfl ?_
      refine W_q hQ ?_
      exact rt_i () hx hb hr hlocks dX2_follow_54 hS (hP.sub [1, 0, 2] rfl) (hD.sub [1, 0, 2] (by decide) rfl) rfl
  · skip
    have k32 : ¬ (qtN (onN (plN mk ear) on) qt) < 400 := fun zq => c32 ((nI_ltI (a := (qtN (onN (plN mk ear) on) qt)) (b := 400) (by omega) (by omega)).mpr zq)
    exact False.elim (by omega)

set_option maxHeartbeats 4000000 in
set_option maxRecDepth 100000 in
theorem c_X2_follow_read_lose (l : Launch) (D : va_G) (cI cG : ClassId) (tt : Nat × Nat × Nat) (sz : Nat) (h0 : Nat) (sc : Nat) (rd : Nat) (ib : Nat) (lv : Int32) (rk : Int32) (on : Nat) (qt : Nat) (lb : Int32) (ear : Nat) (ba : Nat) (tgt : Nat) (nb : Nat) (g : Nat) (gb : Nat) (st : Bool) (fa : Bool) (bt : Bool) (bf : Nat → Int32) (nf : Nat → Nat) (mk : Nat) (hm : mk < 2) (hear : ear < 2048) (hon : on ≤ 10) (hqt : qt < 400) (hq : qtN (onN (plN mk ear) on) qt = 400) : Met l yX2_follow wsX2_follow ({ frames := 5, cells := 0, slots := 0, locals := 98 }) (PC D cI cG tt [.ref h0, .int (nI mk)] [(h0, .inr (2, [.ref sc, .ref rd, .ref ib, .int (nI 2), .int lv, .int rk, .int (nI on), .int (nI qt), .int lb])), (sc, .inr (5, [.int (nI ear)])), (rd, .inr (4, [.int (nI tgt), .ref ba, .int (nI nb), .int (nI g), .int (nI gb), .int (bI st), .int (bI fa), .int (bI bt)])), (ba, .inl (cI, 40, .inl bf))] sz) (QI (fun (r : Int32) (u : Unit) => r = nI 10) (fun (u : Unit) => [(h0, .inr (2, [.ref sc, .ref rd, .ref ib, .int (nI 0), .int lv, .int (nI 0), .int (nI (onN (plN mk ear) on)), .int (nI (qtN (onN (plN mk ear) on) qt)), .int lb])), (sc, .inr (5, [.int (nI (rN ear (kN ear)))])), (rd, .inr (4, [.int (nI tgt), .ref ba, .int (nI nb), .int (nI g), .int (nI gb), .int (bI st), .int (bI fa), .int (bI bt)])), (ba, .inl (cI, 40, .inl bf))]) D (va_A [(h0, .inr (2, [.ref sc, .ref rd, .ref ib, .int (nI 2), .int lv, .int rk, .int (nI on), .int (nI qt), .int lb])), (sc, .inr (5, [.int (nI ear)])), (rd, .inr (4, [.int (nI tgt), .ref ba, .int (nI nb), .int (nI g), .int (nI gb), .int (bI st), .int (bI fa), .int (bI bt)])), (ba, .inl (cI, 40, .inl bf))] sz)) 0 0 (va_A [(h0, .inr (2, [.ref sc, .ref rd, .ref ib, .int (nI 2), .int lv, .int rk, .int (nI on), .int (nI qt), .int lb])), (sc, .inr (5, [.int (nI ear)])), (rd, .inr (4, [.int (nI tgt), .ref ba, .int (nI nb), .int (nI g), .int (nI gb), .int (bI st), .int (bI fa), .int (bI bt)])), (ba, .inl (cI, 40, .inl bf))] sz) := by
  refine ct_of (y := yX2_follow) (cc := cX2_follow) (maxL := 5) (ret := (some .int)) (Qf := QI (fun (r : Int32) (u : Unit) => r = nI 10) (fun (u : Unit) => [(h0, .inr (2, [.ref sc, .ref rd, .ref ib, .int (nI 0), .int lv, .int (nI 0), .int (nI (onN (plN mk ear) on)), .int (nI (qtN (onN (plN mk ear) on) qt)), .int lb])), (sc, .inr (5, [.int (nI (rN ear (kN ear)))])), (rd, .inr (4, [.int (nI tgt), .ref ba, .int (nI nb), .int (nI g), .int (nI gb), .int (bI st), .int (bI fa), .int (bI bt)])), (ba, .inl (cI, 40, .inl bf))]) D) (by decide) rfl ?_
  intro p e s m args below meth c A Q R H locs hR hQ hx hb hml hr hts hown hlocks hin hP hD hE hT hA hS
  have hK := hE.1
  have hl := lv_entry ([.ref h0, .int (nI mk)]) (n := 5) (Nat.le_of_ble_eq_true rfl)
  rw [lg_entry_eq]
  generalize (lg_sl ([.ref h0, .int (nI mk)]) ++ List.replicate (5 - (lg_sl ([.ref h0, .int (nI mk)])).length) Slot.unset).toArray = ls at hl ⊢
  have hl : lv_has ls 5 [(0, .ref h0), (1, .int (nI mk))] := hl
  have hk2 := kN_lt ear
  have hp2 := plN_lt mk ear
  have hq4 := qtN_le (onN (plN mk ear) on) qt
  have ho4 := onN_le (plN mk ear) on
  refine lv_aload_n hx hb dX2_follow_0 rfl (lv_at hl 0 rfl) ?_
  refine va_get (D := D) (ci := 2) (v := .ref sc) (C := RX2) (T := TX2) (N := 9) hx hb hts inX2_follow_X2 hown hK hP 0 rfl rfl 0 (by decide) (hts (.fieldLink RX2 14 "ScrambledLine$Listener" "scrambler" "LScrambledLine$Scrambler;") (by decide +kernel)) (fun _ h9 => h9) rfl dX2_follow_1 ?_
  refine ca_i (wr := [(h0, .inr (2, [.ref sc, .ref rd, .ref ib, .int (nI 2), .int lv, .int rk, .int (nI on), .int (nI qt), .int lb])), (rd, .inr (4, [.int (nI tgt), .ref ba, .int (nI nb), .int (nI g), .int (nI gb), .int (bI st), .int (bI fa), .int (bI bt)])), (ba, .inl (cI, 40, .inl bf))]) (ru_V (As := []) (rest := []) ⟨hx, hb, hml, hown, hts⟩ (c_X5_key l D cI cG tt H.size sc ear (by omega)) (cwV 0 hts gX2_follow_X5_key rfl rfl rfl (by decide +kernel) ⟨by rw [hR]; exact Nat.le_of_ble_eq_true rfl, by rw [hR]; exact Nat.le_of_ble_eq_true rfl⟩) hP hD hE hT hS hA [1] rfl (by decide) (va_recv hK hP (ci := 5) (q0 := 1) rfl rfl) rfl hl.1 rfl (Nat.le_of_ble_eq_true rfl) dX2_follow_4 ⟨by rw [hR]; exact Nat.le_of_ble_eq_true rfl, by rw [hR]; exact Nat.le_of_ble_eq_true rfl⟩) hP hD hS hA [1] [0, 2, 3] rfl rfl (by decide) (by decide) (fun r4 u H locs hw hP hD hS => ?_)
  obtain rfl := hw
  have hP : va_P D vwCl [(h0, .inr (2, [.ref sc, .ref rd, .ref ib, .int (nI 2), .int lv, .int rk, .int (nI on), .int (nI qt), .int lb])), (rd, .inr (4, [.int (nI tgt), .ref ba, .int (nI nb), .int (nI g), .int (nI gb), .int (bI st), .int (bI fa), .int (bI bt)])), (ba, .inl (cI, 40, .inl bf)), (sc, .inr (5, [.int (nI ear)]))] H := hP
  have hD : va_D A [(h0, .inr (2, [.ref sc, .ref rd, .ref ib, .int (nI 2), .int lv, .int rk, .int (nI on), .int (nI qt), .int lb])), (rd, .inr (4, [.int (nI tgt), .ref ba, .int (nI nb), .int (nI g), .int (nI gb), .int (bI st), .int (bI fa), .int (bI bt)])), (ba, .inl (cI, 40, .inl bf)), (sc, .inr (5, [.int (nI ear)]))] := hD
  refine lv_istore_n (lv' := [(2, .int (nI (kN ear))), (0, .ref h0), (1, .int (nI mk))]) hx hb dX2_follow_7 rfl hl (by decide) rfl (fun ls hl => ?_)
  refine lv_iload_n hx hb dX2_follow_8 rfl (lv_at hl 2 rfl) ?_
  refine lv_iload_n hx hb dX2_follow_9 rfl (lv_at hl 0 rfl) ?_
  refine lv_ixor hx hb dX2_follow_10 ?_
  refine lv_to (y := nI (plN mk ear)) (xr hm (kN_lt ear)) ?_
  refine lv_istore_n (lv' := [(3, .int (nI (plN mk ear))), (2, .int (nI (kN ear))), (0, .ref h0), (1, .int (nI mk))]) hx hb dX2_follow_11 rfl hl (by decide) rfl (fun ls hl => ?_)
  refine lv_aload_n hx hb dX2_follow_12 rfl (lv_at hl 2 rfl) ?_
  refine va_get (D := D) (ci := 2) (v := .ref sc) (C := RX2) (T := TX2) (N := 9) hx hb hts inX2_follow_X2 hown hK hP 0 rfl rfl 0 (by decide) (hts (.fieldLink RX2 14 "ScrambledLine$Listener" "scrambler" "LScrambledLine$Scrambler;") (by decide +kernel)) (fun _ h9 => h9) rfl dX2_follow_13 ?_
  refine lv_iload_n hx hb dX2_follow_16 rfl (lv_at hl 1 rfl) ?_
  refine ca_v (wr := [(h0, .inr (2, [.ref sc, .ref rd, .ref ib, .int (nI 2), .int lv, .int rk, .int (nI on), .int (nI qt), .int lb])), (rd, .inr (4, [.int (nI tgt), .ref ba, .int (nI nb), .int (nI g), .int (nI gb), .int (bI st), .int (bI fa), .int (bI bt)])), (ba, .inl (cI, 40, .inl bf))]) (ru_V (As := [.int (nI (kN ear))]) (rest := []) ⟨hx, hb, hml, hown, hts⟩ (c_X5_shiftIn l D cI cG tt H.size sc ear (kN ear) (by omega) (by omega)) (cwV 1 hts gX2_follow_X5_shiftIn rfl rfl rfl (by decide +kernel) ⟨by rw [hR]; exact Nat.le_of_ble_eq_true rfl, by rw [hR]; exact Nat.le_of_ble_eq_true rfl⟩) hP hD hE hT hS hA [3] rfl (by decide) (va_recv hK hP (ci := 5) (q0 := 3) rfl rfl) rfl hl.1 rfl (Nat.le_of_ble_eq_true rfl) dX2_follow_17 ⟨by rw [hR]; exact Nat.le_of_ble_eq_true rfl, by rw [hR]; exact Nat.le_of_ble_eq_true rfl⟩) hP hD hS hA [3] [0, 1, 2] rfl rfl (by decide) (by decide) (fun u H locs hw hP hD hS => ?_)
  have hP : va_P D vwCl [(h0, .inr (2, [.ref sc, .ref rd, .ref ib, .int (nI 2), .int lv, .int rk, .int (nI on), .int (nI qt), .int lb])), (rd, .inr (4, [.int (nI tgt), .ref ba, .int (nI nb), .int (nI g), .int (nI gb), .int (bI st), .int (bI fa), .int (bI bt)])), (ba, .inl (cI, 40, .inl bf)), (sc, .inr (5, [.int (nI (rN ear (kN ear)))]))] H := hP
  have hD : va_D A [(h0, .inr (2, [.ref sc, .ref rd, .ref ib, .int (nI 2), .int lv, .int rk, .int (nI on), .int (nI qt), .int lb])), (rd, .inr (4, [.int (nI tgt), .ref ba, .int (nI nb), .int (nI g), .int (nI gb), .int (bI st), .int (bI fa), .int (bI bt)])), (ba, .inl (cI, 40, .inl bf)), (sc, .inr (5, [.int (nI (rN ear (kN ear)))]))] := hD
  refine lv_aload_n hx hb dX2_follow_20 rfl (lv_at hl 2 rfl) ?_
  refine lv_iload_n hx hb dX2_follow_21 rfl (lv_at hl 0 rfl) ?_
  refine ca_v (wr := [(rd, .inr (4, [.int (nI tgt), .ref ba, .int (nI nb), .int (nI g), .int (nI gb), .int (bI st), .int (bI fa), .int (bI bt)])), (ba, .inl (cI, 40, .inl bf)), (sc, .inr (5, [.int (nI (rN ear (kN ear)))]))]) (ru_V (As := [.int (nI (plN mk ear))]) (rest := []) ⟨hx, hb, hml, hown, hts⟩ (c_X2_countQuiet l D cI cG tt H.size h0 sc rd ib (nI 2) lv rk on qt lb (plN mk ear) (by omega) (by omega) (by omega)) (cwV 1 hts gX2_follow_X2_countQuiet rfl rfl rfl (by decide +kernel) ⟨by rw [hR]; exact Nat.le_of_ble_eq_true rfl, by rw [hR]; exact Nat.le_of_ble_eq_true rfl⟩) hP hD hE hT hS hA [0] rfl (by decide) (va_recv hK hP (ci := 2) (q0 := 0) rfl rfl) rfl hl.1 rfl (Nat.le_of_ble_eq_true rfl) dX2_follow_22 ⟨by rw [hR]; exact Nat.le_of_ble_eq_true rfl, by rw [hR]; exact Nat.le_of_ble_eq_true rfl⟩) hP hD hS hA [0] [1, 2, 3] rfl rfl (by decide) (by decide) (fun u H locs hw hP hD hS => ?_)
  have hP : va_P D vwCl [(rd, .inr (4, [.int (nI tgt), .ref ba, .int (nI nb), .int (nI g), .int (nI gb), .int (bI st), .int (bI fa), .int (bI bt)])), (ba, .inl (cI, 40, .inl bf)), (sc, .inr (5, [.int (nI (rN ear (kN ear)))])), (h0, .inr (2, [.ref sc, .ref rd, .ref ib, .int (nI 2), .int lv, .int rk, .int (nI (onN (plN mk ear) on)), .int (nI (qtN (onN (plN mk ear) on) qt)), .int lb]))] H := hP
  have hD : va_D A [(rd, .inr (4, [.int (nI tgt), .ref ba, .int (nI nb), .int (nI g), .int (nI gb), .int (bI st), .int (bI fa), .int (bI bt)])), (ba, .inl (cI, 40, .inl bf)), (sc, .inr (5, [.int (nI (rN ear (kN ear)))])), (h0, .inr (2, [.ref sc, .ref rd, .ref ib, .int (nI 2), .int lv, .int rk, .int (nI (onN (plN mk ear) on)), .int (nI (qtN (onN (plN mk ear) on) qt)), .int lb]))] := hD
  refine lv_aload_n hx hb dX2_follow_25 rfl (lv_at hl 2 rfl) ?_
  refine va_get (D := D) (ci := 2) (v := .int (nI (qtN (onN (plN mk ear) on) qt))) (C := RX2) (T := TX2) (N := 9) hx hb hts inX2_follow_X2 hown hK hP 3 rfl rfl 7 (by decide) (hts (.fieldLink RX2 40 "ScrambledLine$Listener" "quiet" "I") (by decide +kernel)) (fun _ h9 => h9) rfl dX2_follow_26 ?_
  refine lv_sipush (v := nI 400) hx hb dX2_follow_29 rfl ?_
  refine lv_icmp_lt (tgt := 40) hx hb dX2_follow_32 (by decide) (fun c32 => ?_) (fun c32 => ?_)
  · skip
    have k32 : (qtN (onN (plN mk ear) on) qt) < 400 := (nI_ltI (a := (qtN (onN (plN mk ear) on) qt)) (b := 400) (by omega) (by omega)).mp c32
    exact False.elim (by omega)
  · skip
    have k32 : ¬ (qtN (onN (plN mk ear) on) qt) < 400 := fun zq => c32 ((nI_ltI (a := (qtN (onN (plN mk ear) on) qt)) (b := 400) (by omega) (by omega)).mpr zq)
    refine lv_aload_n hx hb dX2_follow_35 rfl (lv_at hl 2 rfl) ?_
    refine ca_i (wr := [(rd, .inr (4, [.int (nI tgt), .ref ba, .int (nI nb), .int (nI g), .int (nI gb), .int (bI st), .int (bI fa), .int (bI bt)])), (ba, .inl (cI, 40, .inl bf)), (sc, .inr (5, [.int (nI (rN ear (kN ear)))]))]) (ru_V (As := []) (rest := []) ⟨hx, hb, hml, hown, hts⟩ (c_X2_loseLock l D cI cG tt H.size h0 sc rd ib 2 lv rk (nI (onN (plN mk ear) on)) (nI (qtN (onN (plN mk ear) on) qt)) lb (by omega)) (cwV 0 hts gX2_follow_X2_loseLock rfl rfl rfl (by decide +kernel) ⟨by rw [hR]; exact Nat.le_of_ble_eq_true rfl, by rw [hR]; exact Nat.le_of_ble_eq_true rfl⟩) hP hD hE hT hS hA [3] rfl (by decide) (va_recv hK hP (ci := 2) (q0 := 3) rfl rfl) rfl hl.1 rfl (Nat.le_of_ble_eq_true rfl) dX2_follow_36 ⟨by rw [hR]; exact Nat.le_of_ble_eq_true rfl, by rw [hR]; exact Nat.le_of_ble_eq_true rfl⟩) hP hD hS hA [3] [0, 1, 2] rfl rfl (by decide) (by decide) (fun r36 u H locs hw hP hD hS => ?_)
    obtain rfl := hw
    have hP : va_P D vwCl [(rd, .inr (4, [.int (nI tgt), .ref ba, .int (nI nb), .int (nI g), .int (nI gb), .int (bI st), .int (bI fa), .int (bI bt)])), (ba, .inl (cI, 40, .inl bf)), (sc, .inr (5, [.int (nI (rN ear (kN ear)))])), (h0, .inr (2, [.ref sc, .ref rd, .ref ib, .int (nI 0), .int lv, .int (nI 0), .int (nI (onN (plN mk ear) on)), .int (nI (qtN (onN (plN mk ear) on) qt)), .int lb]))] H := hP
    have hD : va_D A [(rd, .inr (4, [.int (nI tgt), .ref ba, .int (nI nb), .int (nI g), .int (nI gb), .int (bI st), .int (bI fa), .int (bI bt)])), (ba, .inl (cI, 40, .inl bf)), (sc, .inr (5, [.int (nI (rN ear (kN ear)))])), (h0, .inr (2, [.ref sc, .ref rd, .ref ib, .int (nI 0), .int lv, .int (nI 0), .int (nI (onN (plN mk ear) on)), .int (nI (qtN (onN (plN mk ear) on) qt)), .int lb]))] := hD
    refine W_q hQ ?_
    exact rt_i () hx hb hr hlocks dX2_follow_39 hS (hP.sub [3, 2, 0, 1] rfl) (hD.sub [3, 2, 0, 1] (by decide) rfl) rfl

set_option maxHeartbeats 4000000 in
set_option maxRecDepth 100000 in
theorem c_X2_follow_read_in (l : Launch) (D : va_G) (cI cG : ClassId) (tt : Nat × Nat × Nat) (sz : Nat) (h0 : Nat) (sc : Nat) (rd : Nat) (ib : Nat) (lv : Int32) (rk : Int32) (on : Nat) (qt : Nat) (lb : Int32) (ear : Nat) (ba : Nat) (tgt : Nat) (nb : Nat) (g : Nat) (gb : Nat) (st : Bool) (fa : Bool) (bt : Bool) (bf : Nat → Int32) (nf : Nat → Nat) (mk : Nat) (hm : mk < 2) (hear : ear < 2048) (hon : on ≤ 10) (hqt : qt < 400) (hq : ¬ qtN (onN (plN mk ear) on) qt = 400) (hg : g < 32) (hgb : gb < 4) : Met l yX2_follow wsX2_follow ({ frames := 5, cells := 0, slots := 0, locals := 98 }) (PC D cI cG tt [.ref h0, .int (nI mk)] [(h0, .inr (2, [.ref sc, .ref rd, .ref ib, .int (nI 2), .int lv, .int rk, .int (nI on), .int (nI qt), .int lb])), (sc, .inr (5, [.int (nI ear)])), (rd, .inr (4, [.int (nI tgt), .ref ba, .int (nI nb), .int (nI g), .int (nI gb), .int (bI st), .int (bI fa), .int (bI bt)])), (ba, .inl (cI, 40, .inl bf))] sz) (QI (fun (r : Int32) (u : Unit) => r = (-1)) (fun (u : Unit) => [(h0, .inr (2, [.ref sc, .ref rd, .ref ib, .int (nI 2), .int lv, .int rk, .int (nI (onN (plN mk ear) on)), .int (nI (qtN (onN (plN mk ear) on) qt)), .int lb])), (sc, .inr (5, [.int (nI (rN ear (kN ear)))])), (rd, .inr (4, [.int (nI tgt), .ref ba, .int (nI nb), .int (nI (2 * g + plN mk ear)), .int (nI (gb + 1)), .int (bI st), .int (bI fa), .int (bI bt)])), (ba, .inl (cI, 40, .inl bf))]) D (va_A [(h0, .inr (2, [.ref sc, .ref rd, .ref ib, .int (nI 2), .int lv, .int rk, .int (nI on), .int (nI qt), .int lb])), (sc, .inr (5, [.int (nI ear)])), (rd, .inr (4, [.int (nI tgt), .ref ba, .int (nI nb), .int (nI g), .int (nI gb), .int (bI st), .int (bI fa), .int (bI bt)])), (ba, .inl (cI, 40, .inl bf))] sz)) 0 0 (va_A [(h0, .inr (2, [.ref sc, .ref rd, .ref ib, .int (nI 2), .int lv, .int rk, .int (nI on), .int (nI qt), .int lb])), (sc, .inr (5, [.int (nI ear)])), (rd, .inr (4, [.int (nI tgt), .ref ba, .int (nI nb), .int (nI g), .int (nI gb), .int (bI st), .int (bI fa), .int (bI bt)])), (ba, .inl (cI, 40, .inl bf))] sz) := by
  refine ct_of (y := yX2_follow) (cc := cX2_follow) (maxL := 5) (ret := (some .int)) (Qf := QI (fun (r : Int32) (u : Unit) => r = (-1)) (fun (u : Unit) => [(h0, .inr (2, [.ref sc, .ref rd, .ref ib, .int (nI 2), .int lv, .int rk, .int (nI (onN (plN mk ear) on)), .int (nI (qtN (onN (plN mk ear) on) qt)), .int lb])), (sc, .inr (5, [.int (nI (rN ear (kN ear)))])), (rd, .inr (4, [.int (nI tgt), .ref ba, .int (nI nb), .int (nI (2 * g + plN mk ear)), .int (nI (gb + 1)), .int (bI st), .int (bI fa), .int (bI bt)])), (ba, .inl (cI, 40, .inl bf))]) D) (by decide) rfl ?_
  intro p e s m args below meth c A Q R H locs hR hQ hx hb hml hr hts hown hlocks hin hP hD hE hT hA hS
  have hK := hE.1
  have hl := lv_entry ([.ref h0, .int (nI mk)]) (n := 5) (Nat.le_of_ble_eq_true rfl)
  rw [lg_entry_eq]
  generalize (lg_sl ([.ref h0, .int (nI mk)]) ++ List.replicate (5 - (lg_sl ([.ref h0, .int (nI mk)])).length) Slot.unset).toArray = ls at hl ⊢
  have hl : lv_has ls 5 [(0, .ref h0), (1, .int (nI mk))] := hl
  have hk2 := kN_lt ear
  have hp2 := plN_lt mk ear
  have hq4 := qtN_le (onN (plN mk ear) on) qt
  have ho4 := onN_le (plN mk ear) on
  refine lv_aload_n hx hb dX2_follow_0 rfl (lv_at hl 0 rfl) ?_
  refine va_get (D := D) (ci := 2) (v := .ref sc) (C := RX2) (T := TX2) (N := 9) hx hb hts inX2_follow_X2 hown hK hP 0 rfl rfl 0 (by decide) (hts (.fieldLink RX2 14 "ScrambledLine$Listener" "scrambler" "LScrambledLine$Scrambler;") (by decide +kernel)) (fun _ h9 => h9) rfl dX2_follow_1 ?_
  refine ca_i (wr := [(h0, .inr (2, [.ref sc, .ref rd, .ref ib, .int (nI 2), .int lv, .int rk, .int (nI on), .int (nI qt), .int lb])), (rd, .inr (4, [.int (nI tgt), .ref ba, .int (nI nb), .int (nI g), .int (nI gb), .int (bI st), .int (bI fa), .int (bI bt)])), (ba, .inl (cI, 40, .inl bf))]) (ru_V (As := []) (rest := []) ⟨hx, hb, hml, hown, hts⟩ (c_X5_key l D cI cG tt H.size sc ear (by omega)) (cwV 0 hts gX2_follow_X5_key rfl rfl rfl (by decide +kernel) ⟨by rw [hR]; exact Nat.le_of_ble_eq_true rfl, by rw [hR]; exact Nat.le_of_ble_eq_true rfl⟩) hP hD hE hT hS hA [1] rfl (by decide) (va_recv hK hP (ci := 5) (q0 := 1) rfl rfl) rfl hl.1 rfl (Nat.le_of_ble_eq_true rfl) dX2_follow_4 ⟨by rw [hR]; exact Nat.le_of_ble_eq_true rfl, by rw [hR]; exact Nat.le_of_ble_eq_true rfl⟩) hP hD hS hA [1] [0, 2, 3] rfl rfl (by decide) (by decide) (fun r4 u H locs hw hP hD hS => ?_)
  obtain rfl := hw
  have hP : va_P D vwCl [(h0, .inr (2, [.ref sc, .ref rd, .ref ib, .int (nI 2), .int lv, .int rk, .int (nI on), .int (nI qt), .int lb])), (rd, .inr (4, [.int (nI tgt), .ref ba, .int (nI nb), .int (nI g), .int (nI gb), .int (bI st), .int (bI fa), .int (bI bt)])), (ba, .inl (cI, 40, .inl bf)), (sc, .inr (5, [.int (nI ear)]))] H := hP
  have hD : va_D A [(h0, .inr (2, [.ref sc, .ref rd, .ref ib, .int (nI 2), .int lv, .int rk, .int (nI on), .int (nI qt), .int lb])), (rd, .inr (4, [.int (nI tgt), .ref ba, .int (nI nb), .int (nI g), .int (nI gb), .int (bI st), .int (bI fa), .int (bI bt)])), (ba, .inl (cI, 40, .inl bf)), (sc, .inr (5, [.int (nI ear)]))] := hD
  refine lv_istore_n (lv' := [(2, .int (nI (kN ear))), (0, .ref h0), (1, .int (nI mk))]) hx hb dX2_follow_7 rfl hl (by decide) rfl (fun ls hl => ?_)
  refine lv_iload_n hx hb dX2_follow_8 rfl (lv_at hl 2 rfl) ?_
  refine lv_iload_n hx hb dX2_follow_9 rfl (lv_at hl 0 rfl) ?_
  refine lv_ixor hx hb dX2_follow_10 ?_
  refine lv_to (y := nI (plN mk ear)) (xr hm (kN_lt ear)) ?_
  refine lv_istore_n (lv' := [(3, .int (nI (plN mk ear))), (2, .int (nI (kN ear))), (0, .ref h0), (1, .int (nI mk))]) hx hb dX2_follow_11 rfl hl (by decide) rfl (fun ls hl => ?_)
  refine lv_aload_n hx hb dX2_follow_12 rfl (lv_at hl 2 rfl) ?_
  refine va_get (D := D) (ci := 2) (v := .ref sc) (C := RX2) (T := TX2) (N := 9) hx hb hts inX2_follow_X2 hown hK hP 0 rfl rfl 0 (by decide) (hts (.fieldLink RX2 14 "ScrambledLine$Listener" "scrambler" "LScrambledLine$Scrambler;") (by decide +kernel)) (fun _ h9 => h9) rfl dX2_follow_13 ?_
  refine lv_iload_n hx hb dX2_follow_16 rfl (lv_at hl 1 rfl) ?_
  refine ca_v (wr := [(h0, .inr (2, [.ref sc, .ref rd, .ref ib, .int (nI 2), .int lv, .int rk, .int (nI on), .int (nI qt), .int lb])), (rd, .inr (4, [.int (nI tgt), .ref ba, .int (nI nb), .int (nI g), .int (nI gb), .int (bI st), .int (bI fa), .int (bI bt)])), (ba, .inl (cI, 40, .inl bf))]) (ru_V (As := [.int (nI (kN ear))]) (rest := []) ⟨hx, hb, hml, hown, hts⟩ (c_X5_shiftIn l D cI cG tt H.size sc ear (kN ear) (by omega) (by omega)) (cwV 1 hts gX2_follow_X5_shiftIn rfl rfl rfl (by decide +kernel) ⟨by rw [hR]; exact Nat.le_of_ble_eq_true rfl, by rw [hR]; exact Nat.le_of_ble_eq_true rfl⟩) hP hD hE hT hS hA [3] rfl (by decide) (va_recv hK hP (ci := 5) (q0 := 3) rfl rfl) rfl hl.1 rfl (Nat.le_of_ble_eq_true rfl) dX2_follow_17 ⟨by rw [hR]; exact Nat.le_of_ble_eq_true rfl, by rw [hR]; exact Nat.le_of_ble_eq_true rfl⟩) hP hD hS hA [3] [0, 1, 2] rfl rfl (by decide) (by decide) (fun u H locs hw hP hD hS => ?_)
  have hP : va_P D vwCl [(h0, .inr (2, [.ref sc, .ref rd, .ref ib, .int (nI 2), .int lv, .int rk, .int (nI on), .int (nI qt), .int lb])), (rd, .inr (4, [.int (nI tgt), .ref ba, .int (nI nb), .int (nI g), .int (nI gb), .int (bI st), .int (bI fa), .int (bI bt)])), (ba, .inl (cI, 40, .inl bf)), (sc, .inr (5, [.int (nI (rN ear (kN ear)))]))] H := hP
  have hD : va_D A [(h0, .inr (2, [.ref sc, .ref rd, .ref ib, .int (nI 2), .int lv, .int rk, .int (nI on), .int (nI qt), .int lb])), (rd, .inr (4, [.int (nI tgt), .ref ba, .int (nI nb), .int (nI g), .int (nI gb), .int (bI st), .int (bI fa), .int (bI bt)])), (ba, .inl (cI, 40, .inl bf)), (sc, .inr (5, [.int (nI (rN ear (kN ear)))]))] := hD
  refine lv_aload_n hx hb dX2_follow_20 rfl (lv_at hl 2 rfl) ?_
  refine lv_iload_n hx hb dX2_follow_21 rfl (lv_at hl 0 rfl) ?_
  refine ca_v (wr := [(rd, .inr (4, [.int (nI tgt), .ref ba, .int (nI nb), .int (nI g), .int (nI gb), .int (bI st), .int (bI fa), .int (bI bt)])), (ba, .inl (cI, 40, .inl bf)), (sc, .inr (5, [.int (nI (rN ear (kN ear)))]))]) (ru_V (As := [.int (nI (plN mk ear))]) (rest := []) ⟨hx, hb, hml, hown, hts⟩ (c_X2_countQuiet l D cI cG tt H.size h0 sc rd ib (nI 2) lv rk on qt lb (plN mk ear) (by omega) (by omega) (by omega)) (cwV 1 hts gX2_follow_X2_countQuiet rfl rfl rfl (by decide +kernel) ⟨by rw [hR]; exact Nat.le_of_ble_eq_true rfl, by rw [hR]; exact Nat.le_of_ble_eq_true rfl⟩) hP hD hE hT hS hA [0] rfl (by decide) (va_recv hK hP (ci := 2) (q0 := 0) rfl rfl) rfl hl.1 rfl (Nat.le_of_ble_eq_true rfl) dX2_follow_22 ⟨by rw [hR]; exact Nat.le_of_ble_eq_true rfl, by rw [hR]; exact Nat.le_of_ble_eq_true rfl⟩) hP hD hS hA [0] [1, 2, 3] rfl rfl (by decide) (by decide) (fun u H locs hw hP hD hS => ?_)
  have hP : va_P D vwCl [(rd, .inr (4, [.int (nI tgt), .ref ba, .int (nI nb), .int (nI g), .int (nI gb), .int (bI st), .int (bI fa), .int (bI bt)])), (ba, .inl (cI, 40, .inl bf)), (sc, .inr (5, [.int (nI (rN ear (kN ear)))])), (h0, .inr (2, [.ref sc, .ref rd, .ref ib, .int (nI 2), .int lv, .int rk, .int (nI (onN (plN mk ear) on)), .int (nI (qtN (onN (plN mk ear) on) qt)), .int lb]))] H := hP
  have hD : va_D A [(rd, .inr (4, [.int (nI tgt), .ref ba, .int (nI nb), .int (nI g), .int (nI gb), .int (bI st), .int (bI fa), .int (bI bt)])), (ba, .inl (cI, 40, .inl bf)), (sc, .inr (5, [.int (nI (rN ear (kN ear)))])), (h0, .inr (2, [.ref sc, .ref rd, .ref ib, .int (nI 2), .int lv, .int rk, .int (nI (onN (plN mk ear) on)), .int (nI (qtN (onN (plN mk ear) on) qt)), .int lb]))] := hD
  refine lv_aload_n hx hb dX2_follow_25 rfl (lv_at hl 2 rfl) ?_
  refine va_get (D := D) (ci := 2) (v := .int (nI (qtN (onN (plN mk ear) on) qt))) (C := RX2) (T := TX2) (N := 9) hx hb hts inX2_follow_X2 hown hK hP 3 rfl rfl 7 (by decide) (hts (.fieldLink RX2 40 "ScrambledLine$Listener" "quiet" "I") (by decide +kernel)) (fun _ h9 => h9) rfl dX2_follow_26 ?_
  refine lv_sipush (v := nI 400) hx hb dX2_follow_29 rfl ?_
  refine lv_icmp_lt (tgt := 40) hx hb dX2_follow_32 (by decide) (fun c32 => ?_) (fun c32 => ?_)
  · skip
    have k32 : (qtN (onN (plN mk ear) on) qt) < 400 := (nI_ltI (a := (qtN (onN (plN mk ear) on) qt)) (b := 400) (by omega) (by omega)).mp c32
    refine lv_aload_n hx hb dX2_follow_40 rfl (lv_at hl 2 rfl) ?_
    refine va_get (D := D) (ci := 2) (v := .int (nI 2)) (C := RX2) (T := TX2) (N := 9) hx hb hts inX2_follow_X2 hown hK hP 3 rfl rfl 3 (by decide) (hts (.fieldLink RX2 27 "ScrambledLine$Listener" "mode" "I") (by decide +kernel)) (fun _ h9 => h9) rfl dX2_follow_41 ?_
    refine lv_iconst (v := nI 1) hx hb dX2_follow_44 rfl ?_
    refine lv_icmp_ne (tgt := 55) hx hb dX2_follow_45 (by decide) (fun c45 => ?_) (fun c45 => ?_)
    · skip
      have k45 : ¬ 2 = 1 := fun zq => c45 ((nI_eq (a := 2) (b := 1) (by omega) (by omega)).mpr zq)
      refine lv_aload_n hx hb dX2_follow_55 rfl (lv_at hl 2 rfl) ?_
      refine va_get (D := D) (ci := 2) (v := .ref rd) (C := RX2) (T := TX2) (N := 9) hx hb hts inX2_follow_X2 hown hK hP 3 rfl rfl 1 (by decide) (hts (.fieldLink RX2 49 "ScrambledLine$Listener" "reader" "LScrambledLine$Reader;") (by decide +kernel)) (fun _ h9 => h9) rfl dX2_follow_56 ?_
      refine lv_iload_n hx hb dX2_follow_59 rfl (lv_at hl 0 rfl) ?_
      refine ca_i (wr := [(ba, .inl (cI, 40, .inl bf)), (sc, .inr (5, [.int (nI (rN ear (kN ear)))])), (h0, .inr (2, [.ref sc, .ref rd, .ref ib, .int (nI 2), .int lv, .int rk, .int (nI (onN (plN mk ear) on)), .int (nI (qtN (onN (plN mk ear) on) qt)), .int lb]))]) (ru_V (As := [.int (nI (plN mk ear))]) (rest := []) ⟨hx, hb, hml, hown, hts⟩ (c_X4_takeBit_in l D cI cG tt H.size rd ba tgt nb g gb st fa bt (plN mk ear) (by omega) (by omega) (by omega)) (cwV 1 hts gX2_follow_X4_takeBit rfl rfl rfl (by decide +kernel) ⟨by rw [hR]; exact Nat.le_of_ble_eq_true rfl, by rw [hR]; exact Nat.le_of_ble_eq_true rfl⟩) hP hD hE hT hS hA [0] rfl (by decide) (va_recv hK hP (ci := 4) (q0 := 0) rfl rfl) rfl hl.1 rfl (Nat.le_of_ble_eq_true rfl) dX2_follow_60 ⟨by rw [hR]; exact Nat.le_of_ble_eq_true rfl, by rw [hR]; exact Nat.le_of_ble_eq_true rfl⟩) hP hD hS hA [0] [1, 2, 3] rfl rfl (by decide) (by decide) (fun r60 u H locs hw hP hD hS => ?_)
      obtain rfl := hw
      have hP : va_P D vwCl [(ba, .inl (cI, 40, .inl bf)), (sc, .inr (5, [.int (nI (rN ear (kN ear)))])), (h0, .inr (2, [.ref sc, .ref rd, .ref ib, .int (nI 2), .int lv, .int rk, .int (nI (onN (plN mk ear) on)), .int (nI (qtN (onN (plN mk ear) on) qt)), .int lb])), (rd, .inr (4, [.int (nI tgt), .ref ba, .int (nI nb), .int (nI (2 * g + (plN mk ear))), .int (nI (gb + 1)), .int (bI st), .int (bI fa), .int (bI bt)]))] H := hP
      have hD : va_D A [(ba, .inl (cI, 40, .inl bf)), (sc, .inr (5, [.int (nI (rN ear (kN ear)))])), (h0, .inr (2, [.ref sc, .ref rd, .ref ib, .int (nI 2), .int lv, .int rk, .int (nI (onN (plN mk ear) on)), .int (nI (qtN (onN (plN mk ear) on) qt)), .int lb])), (rd, .inr (4, [.int (nI tgt), .ref ba, .int (nI nb), .int (nI (2 * g + (plN mk ear))), .int (nI (gb + 1)), .int (bI st), .int (bI fa), .int (bI bt)]))] := hD
      refine lv_istore (lv' := [(4, .int (-1)), (3, .int (nI (plN mk ear))), (2, .int (nI (kN ear))), (0, .ref h0), (1, .int (nI mk))]) hx hb dX2_follow_63 hl (by decide) rfl (fun ls hl => ?_)
      refine lv_iload hx hb dX2_follow_65 (lv_at hl 0 rfl) ?_
      refine lv_iconst (v := (-1)) hx hb dX2_follow_67 rfl ?_
      refine lv_icmp_eq (tgt := 75) hx hb dX2_follow_68 (by decide) (fun c68 => ?_) (fun c68 => ?_)
      · skip
        
        refine lv_iload hx hb dX2_follow_75 (lv_at hl 0 rfl) ?_
        refine W_q hQ ?_
        exact rt_i () hx hb hr hlocks dX2_follow_77 hS (hP.sub [2, 1, 3, 0] rfl) (hD.sub [2, 1, 3, 0] (by decide) rfl) rfl
      · skip
        
        exact absurd rfl c68
    · skip
      have k45 : 2 = 1 := (nI_eq (a := 2) (b := 1) (by omega) (by omega)).mp c45
      exact False.elim (by omega)
  · skip
    have k32 : ¬ (qtN (onN (plN mk ear) on) qt) < 400 := fun zq => c32 ((nI_ltI (a := (qtN (onN (plN mk ear) on) qt)) (b := 400) (by omega) (by omega)).mpr zq)
    exact False.elim (by omega)

set_option maxHeartbeats 4000000 in
set_option maxRecDepth 100000 in
theorem c_X2_follow_read_cont (l : Launch) (D : va_G) (cI cG : ClassId) (tt : Nat × Nat × Nat) (sz : Nat) (h0 : Nat) (sc : Nat) (rd : Nat) (ib : Nat) (lv : Int32) (rk : Int32) (on : Nat) (qt : Nat) (lb : Int32) (ear : Nat) (ba : Nat) (tgt : Nat) (nb : Nat) (g : Nat) (gb : Nat) (st : Bool) (fa : Bool) (bt : Bool) (bf : Nat → Int32) (nf : Nat → Nat) (mk : Nat) (hm : mk < 2) (hear : ear < 2048) (hon : on ≤ 10) (hqt : qt < 400) (ht : tgt < 256) (hq : ¬ qtN (onN (plN mk ear) on) qt = 400) (hg : g < 16) (hgb : gb = 4) (hnb : nb < 80) (hB : RB bf nb nf) (hc : tgR tgt (2 * g + plN mk ear) (st, fa, bt, nb, nf) = (-1)) : Met l yX2_follow wsX2_follow ({ frames := 5, cells := 0, slots := 0, locals := 98 }) (PC D cI cG tt [.ref h0, .int (nI mk)] [(h0, .inr (2, [.ref sc, .ref rd, .ref ib, .int (nI 2), .int lv, .int rk, .int (nI on), .int (nI qt), .int lb])), (sc, .inr (5, [.int (nI ear)])), (rd, .inr (4, [.int (nI tgt), .ref ba, .int (nI nb), .int (nI g), .int (nI gb), .int (bI st), .int (bI fa), .int (bI bt)])), (ba, .inl (cI, 40, .inl bf))] sz) (QI (fun (r : Int32) (u : Bool × Bool × Bool × Nat × (Nat → Nat) × (Nat → Int32)) => match u with | (st2, fa2, bt2, nb2, nf2, bf2) => r = (-1) ∧ (st2, fa2, bt2, nb2, nf2) = tgS (2 * g + plN mk ear) (st, fa, bt, nb, nf) ∧ RB bf2 nb2 nf2) (fun (u : Bool × Bool × Bool × Nat × (Nat → Nat) × (Nat → Int32)) => match u with | (st2, fa2, bt2, nb2, nf2, bf2) => [(h0, .inr (2, [.ref sc, .ref rd, .ref ib, .int (nI 2), .int lv, .int rk, .int (nI (onN (plN mk ear) on)), .int (nI (qtN (onN (plN mk ear) on) qt)), .int lb])), (sc, .inr (5, [.int (nI (rN ear (kN ear)))])), (rd, .inr (4, [.int (nI tgt), .ref ba, .int (nI nb2), .int (nI 0), .int (nI 0), .int (bI st2), .int (bI fa2), .int (bI bt2)])), (ba, .inl (cI, 40, .inl bf2))]) D (va_A [(h0, .inr (2, [.ref sc, .ref rd, .ref ib, .int (nI 2), .int lv, .int rk, .int (nI on), .int (nI qt), .int lb])), (sc, .inr (5, [.int (nI ear)])), (rd, .inr (4, [.int (nI tgt), .ref ba, .int (nI nb), .int (nI g), .int (nI gb), .int (bI st), .int (bI fa), .int (bI bt)])), (ba, .inl (cI, 40, .inl bf))] sz)) 0 0 (va_A [(h0, .inr (2, [.ref sc, .ref rd, .ref ib, .int (nI 2), .int lv, .int rk, .int (nI on), .int (nI qt), .int lb])), (sc, .inr (5, [.int (nI ear)])), (rd, .inr (4, [.int (nI tgt), .ref ba, .int (nI nb), .int (nI g), .int (nI gb), .int (bI st), .int (bI fa), .int (bI bt)])), (ba, .inl (cI, 40, .inl bf))] sz) := by
  refine ct_of (y := yX2_follow) (cc := cX2_follow) (maxL := 5) (ret := (some .int)) (Qf := QI (fun (r : Int32) (u : Bool × Bool × Bool × Nat × (Nat → Nat) × (Nat → Int32)) => match u with | (st2, fa2, bt2, nb2, nf2, bf2) => r = (-1) ∧ (st2, fa2, bt2, nb2, nf2) = tgS (2 * g + plN mk ear) (st, fa, bt, nb, nf) ∧ RB bf2 nb2 nf2) (fun (u : Bool × Bool × Bool × Nat × (Nat → Nat) × (Nat → Int32)) => match u with | (st2, fa2, bt2, nb2, nf2, bf2) => [(h0, .inr (2, [.ref sc, .ref rd, .ref ib, .int (nI 2), .int lv, .int rk, .int (nI (onN (plN mk ear) on)), .int (nI (qtN (onN (plN mk ear) on) qt)), .int lb])), (sc, .inr (5, [.int (nI (rN ear (kN ear)))])), (rd, .inr (4, [.int (nI tgt), .ref ba, .int (nI nb2), .int (nI 0), .int (nI 0), .int (bI st2), .int (bI fa2), .int (bI bt2)])), (ba, .inl (cI, 40, .inl bf2))]) D) (by decide) rfl ?_
  intro p e s m args below meth c A Q R H locs hR hQ hx hb hml hr hts hown hlocks hin hP hD hE hT hA hS
  have hK := hE.1
  have hl := lv_entry ([.ref h0, .int (nI mk)]) (n := 5) (Nat.le_of_ble_eq_true rfl)
  rw [lg_entry_eq]
  generalize (lg_sl ([.ref h0, .int (nI mk)]) ++ List.replicate (5 - (lg_sl ([.ref h0, .int (nI mk)])).length) Slot.unset).toArray = ls at hl ⊢
  have hl : lv_has ls 5 [(0, .ref h0), (1, .int (nI mk))] := hl
  have hk2 := kN_lt ear
  have hp2 := plN_lt mk ear
  have hq4 := qtN_le (onN (plN mk ear) on) qt
  have ho4 := onN_le (plN mk ear) on
  refine lv_aload_n hx hb dX2_follow_0 rfl (lv_at hl 0 rfl) ?_
  refine va_get (D := D) (ci := 2) (v := .ref sc) (C := RX2) (T := TX2) (N := 9) hx hb hts inX2_follow_X2 hown hK hP 0 rfl rfl 0 (by decide) (hts (.fieldLink RX2 14 "ScrambledLine$Listener" "scrambler" "LScrambledLine$Scrambler;") (by decide +kernel)) (fun _ h9 => h9) rfl dX2_follow_1 ?_
  refine ca_i (wr := [(h0, .inr (2, [.ref sc, .ref rd, .ref ib, .int (nI 2), .int lv, .int rk, .int (nI on), .int (nI qt), .int lb])), (rd, .inr (4, [.int (nI tgt), .ref ba, .int (nI nb), .int (nI g), .int (nI gb), .int (bI st), .int (bI fa), .int (bI bt)])), (ba, .inl (cI, 40, .inl bf))]) (ru_V (As := []) (rest := []) ⟨hx, hb, hml, hown, hts⟩ (c_X5_key l D cI cG tt H.size sc ear (by omega)) (cwV 0 hts gX2_follow_X5_key rfl rfl rfl (by decide +kernel) ⟨by rw [hR]; exact Nat.le_of_ble_eq_true rfl, by rw [hR]; exact Nat.le_of_ble_eq_true rfl⟩) hP hD hE hT hS hA [1] rfl (by decide) (va_recv hK hP (ci := 5) (q0 := 1) rfl rfl) rfl hl.1 rfl (Nat.le_of_ble_eq_true rfl) dX2_follow_4 ⟨by rw [hR]; exact Nat.le_of_ble_eq_true rfl, by rw [hR]; exact Nat.le_of_ble_eq_true rfl⟩) hP hD hS hA [1] [0, 2, 3] rfl rfl (by decide) (by decide) (fun r4 u H locs hw hP hD hS => ?_)
  obtain rfl := hw
  have hP : va_P D vwCl [(h0, .inr (2, [.ref sc, .ref rd, .ref ib, .int (nI 2), .int lv, .int rk, .int (nI on), .int (nI qt), .int lb])), (rd, .inr (4, [.int (nI tgt), .ref ba, .int (nI nb), .int (nI g), .int (nI gb), .int (bI st), .int (bI fa), .int (bI bt)])), (ba, .inl (cI, 40, .inl bf)), (sc, .inr (5, [.int (nI ear)]))] H := hP
  have hD : va_D A [(h0, .inr (2, [.ref sc, .ref rd, .ref ib, .int (nI 2), .int lv, .int rk, .int (nI on), .int (nI qt), .int lb])), (rd, .inr (4, [.int (nI tgt), .ref ba, .int (nI nb), .int (nI g), .int (nI gb), .int (bI st), .int (bI fa), .int (bI bt)])), (ba, .inl (cI, 40, .inl bf)), (sc, .inr (5, [.int (nI ear)]))] := hD
  refine lv_istore_n (lv' := [(2, .int (nI (kN ear))), (0, .ref h0), (1, .int (nI mk))]) hx hb dX2_follow_7 rfl hl (by decide) rfl (fun ls hl => ?_)
  refine lv_iload_n hx hb dX2_follow_8 rfl (lv_at hl 2 rfl) ?_
  refine lv_iload_n hx hb dX2_follow_9 rfl (lv_at hl 0 rfl) ?_
  refine lv_ixor hx hb dX2_follow_10 ?_
  refine lv_to (y := nI (plN mk ear)) (xr hm (kN_lt ear)) ?_
  refine lv_istore_n (lv' := [(3, .int (nI (plN mk ear))), (2, .int (nI (kN ear))), (0, .ref h0), (1, .int (nI mk))]) hx hb dX2_follow_11 rfl hl (by decide) rfl (fun ls hl => ?_)
  refine lv_aload_n hx hb dX2_follow_12 rfl (lv_at hl 2 rfl) ?_
  refine va_get (D := D) (ci := 2) (v := .ref sc) (C := RX2) (T := TX2) (N := 9) hx hb hts inX2_follow_X2 hown hK hP 0 rfl rfl 0 (by decide) (hts (.fieldLink RX2 14 "ScrambledLine$Listener" "scrambler" "LScrambledLine$Scrambler;") (by decide +kernel)) (fun _ h9 => h9) rfl dX2_follow_13 ?_
  refine lv_iload_n hx hb dX2_follow_16 rfl (lv_at hl 1 rfl) ?_
  refine ca_v (wr := [(h0, .inr (2, [.ref sc, .ref rd, .ref ib, .int (nI 2), .int lv, .int rk, .int (nI on), .int (nI qt), .int lb])), (rd, .inr (4, [.int (nI tgt), .ref ba, .int (nI nb), .int (nI g), .int (nI gb), .int (bI st), .int (bI fa), .int (bI bt)])), (ba, .inl (cI, 40, .inl bf))]) (ru_V (As := [.int (nI (kN ear))]) (rest := []) ⟨hx, hb, hml, hown, hts⟩ (c_X5_shiftIn l D cI cG tt H.size sc ear (kN ear) (by omega) (by omega)) (cwV 1 hts gX2_follow_X5_shiftIn rfl rfl rfl (by decide +kernel) ⟨by rw [hR]; exact Nat.le_of_ble_eq_true rfl, by rw [hR]; exact Nat.le_of_ble_eq_true rfl⟩) hP hD hE hT hS hA [3] rfl (by decide) (va_recv hK hP (ci := 5) (q0 := 3) rfl rfl) rfl hl.1 rfl (Nat.le_of_ble_eq_true rfl) dX2_follow_17 ⟨by rw [hR]; exact Nat.le_of_ble_eq_true rfl, by rw [hR]; exact Nat.le_of_ble_eq_true rfl⟩) hP hD hS hA [3] [0, 1, 2] rfl rfl (by decide) (by decide) (fun u H locs hw hP hD hS => ?_)
  have hP : va_P D vwCl [(h0, .inr (2, [.ref sc, .ref rd, .ref ib, .int (nI 2), .int lv, .int rk, .int (nI on), .int (nI qt), .int lb])), (rd, .inr (4, [.int (nI tgt), .ref ba, .int (nI nb), .int (nI g), .int (nI gb), .int (bI st), .int (bI fa), .int (bI bt)])), (ba, .inl (cI, 40, .inl bf)), (sc, .inr (5, [.int (nI (rN ear (kN ear)))]))] H := hP
  have hD : va_D A [(h0, .inr (2, [.ref sc, .ref rd, .ref ib, .int (nI 2), .int lv, .int rk, .int (nI on), .int (nI qt), .int lb])), (rd, .inr (4, [.int (nI tgt), .ref ba, .int (nI nb), .int (nI g), .int (nI gb), .int (bI st), .int (bI fa), .int (bI bt)])), (ba, .inl (cI, 40, .inl bf)), (sc, .inr (5, [.int (nI (rN ear (kN ear)))]))] := hD
  refine lv_aload_n hx hb dX2_follow_20 rfl (lv_at hl 2 rfl) ?_
  refine lv_iload_n hx hb dX2_follow_21 rfl (lv_at hl 0 rfl) ?_
  refine ca_v (wr := [(rd, .inr (4, [.int (nI tgt), .ref ba, .int (nI nb), .int (nI g), .int (nI gb), .int (bI st), .int (bI fa), .int (bI bt)])), (ba, .inl (cI, 40, .inl bf)), (sc, .inr (5, [.int (nI (rN ear (kN ear)))]))]) (ru_V (As := [.int (nI (plN mk ear))]) (rest := []) ⟨hx, hb, hml, hown, hts⟩ (c_X2_countQuiet l D cI cG tt H.size h0 sc rd ib (nI 2) lv rk on qt lb (plN mk ear) (by omega) (by omega) (by omega)) (cwV 1 hts gX2_follow_X2_countQuiet rfl rfl rfl (by decide +kernel) ⟨by rw [hR]; exact Nat.le_of_ble_eq_true rfl, by rw [hR]; exact Nat.le_of_ble_eq_true rfl⟩) hP hD hE hT hS hA [0] rfl (by decide) (va_recv hK hP (ci := 2) (q0 := 0) rfl rfl) rfl hl.1 rfl (Nat.le_of_ble_eq_true rfl) dX2_follow_22 ⟨by rw [hR]; exact Nat.le_of_ble_eq_true rfl, by rw [hR]; exact Nat.le_of_ble_eq_true rfl⟩) hP hD hS hA [0] [1, 2, 3] rfl rfl (by decide) (by decide) (fun u H locs hw hP hD hS => ?_)
  have hP : va_P D vwCl [(rd, .inr (4, [.int (nI tgt), .ref ba, .int (nI nb), .int (nI g), .int (nI gb), .int (bI st), .int (bI fa), .int (bI bt)])), (ba, .inl (cI, 40, .inl bf)), (sc, .inr (5, [.int (nI (rN ear (kN ear)))])), (h0, .inr (2, [.ref sc, .ref rd, .ref ib, .int (nI 2), .int lv, .int rk, .int (nI (onN (plN mk ear) on)), .int (nI (qtN (onN (plN mk ear) on) qt)), .int lb]))] H := hP
  have hD : va_D A [(rd, .inr (4, [.int (nI tgt), .ref ba, .int (nI nb), .int (nI g), .int (nI gb), .int (bI st), .int (bI fa), .int (bI bt)])), (ba, .inl (cI, 40, .inl bf)), (sc, .inr (5, [.int (nI (rN ear (kN ear)))])), (h0, .inr (2, [.ref sc, .ref rd, .ref ib, .int (nI 2), .int lv, .int rk, .int (nI (onN (plN mk ear) on)), .int (nI (qtN (onN (plN mk ear) on) qt)), .int lb]))] := hD
  refine lv_aload_n hx hb dX2_follow_25 rfl (lv_at hl 2 rfl) ?_
  refine va_get (D := D) (ci := 2) (v := .int (nI (qtN (onN (plN mk ear) on) qt))) (C := RX2) (T := TX2) (N := 9) hx hb hts inX2_follow_X2 hown hK hP 3 rfl rfl 7 (by decide) (hts (.fieldLink RX2 40 "ScrambledLine$Listener" "quiet" "I") (by decide +kernel)) (fun _ h9 => h9) rfl dX2_follow_26 ?_
  refine lv_sipush (v := nI 400) hx hb dX2_follow_29 rfl ?_
  refine lv_icmp_lt (tgt := 40) hx hb dX2_follow_32 (by decide) (fun c32 => ?_) (fun c32 => ?_)
  · skip
    have k32 : (qtN (onN (plN mk ear) on) qt) < 400 := (nI_ltI (a := (qtN (onN (plN mk ear) on) qt)) (b := 400) (by omega) (by omega)).mp c32
    refine lv_aload_n hx hb dX2_follow_40 rfl (lv_at hl 2 rfl) ?_
    refine va_get (D := D) (ci := 2) (v := .int (nI 2)) (C := RX2) (T := TX2) (N := 9) hx hb hts inX2_follow_X2 hown hK hP 3 rfl rfl 3 (by decide) (hts (.fieldLink RX2 27 "ScrambledLine$Listener" "mode" "I") (by decide +kernel)) (fun _ h9 => h9) rfl dX2_follow_41 ?_
    refine lv_iconst (v := nI 1) hx hb dX2_follow_44 rfl ?_
    refine lv_icmp_ne (tgt := 55) hx hb dX2_follow_45 (by decide) (fun c45 => ?_) (fun c45 => ?_)
    · skip
      have k45 : ¬ 2 = 1 := fun zq => c45 ((nI_eq (a := 2) (b := 1) (by omega) (by omega)).mpr zq)
      refine lv_aload_n hx hb dX2_follow_55 rfl (lv_at hl 2 rfl) ?_
      refine va_get (D := D) (ci := 2) (v := .ref rd) (C := RX2) (T := TX2) (N := 9) hx hb hts inX2_follow_X2 hown hK hP 3 rfl rfl 1 (by decide) (hts (.fieldLink RX2 49 "ScrambledLine$Listener" "reader" "LScrambledLine$Reader;") (by decide +kernel)) (fun _ h9 => h9) rfl dX2_follow_56 ?_
      refine lv_iload_n hx hb dX2_follow_59 rfl (lv_at hl 0 rfl) ?_
      refine ca_i (wr := [(sc, .inr (5, [.int (nI (rN ear (kN ear)))])), (h0, .inr (2, [.ref sc, .ref rd, .ref ib, .int (nI 2), .int lv, .int rk, .int (nI (onN (plN mk ear) on)), .int (nI (qtN (onN (plN mk ear) on) qt)), .int lb]))]) (ru_V (As := [.int (nI (plN mk ear))]) (rest := []) ⟨hx, hb, hml, hown, hts⟩ (c_X4_takeBit_end l D cI cG tt H.size rd ba tgt nb g gb st fa bt bf nf (plN mk ear) (by omega) (by omega) (by omega) (by omega) (by omega) hB) (cwV 1 hts gX2_follow_X4_takeBit rfl rfl rfl (by decide +kernel) ⟨by rw [hR]; exact Nat.le_of_ble_eq_true rfl, by rw [hR]; exact Nat.le_of_ble_eq_true rfl⟩) hP hD hE hT hS hA [0, 1] rfl (by decide) (va_recv hK hP (ci := 4) (q0 := 0) rfl rfl) rfl hl.1 rfl (Nat.le_of_ble_eq_true rfl) dX2_follow_60 ⟨by rw [hR]; exact Nat.le_of_ble_eq_true rfl, by rw [hR]; exact Nat.le_of_ble_eq_true rfl⟩) hP hD hS hA [0, 1] [2, 3] rfl rfl (by decide) (by decide) (fun r60 u H locs hw hP hD hS => ?_)
      obtain ⟨st2_60, fa2_60, bt2_60, nb2_60, nf2_60, bf2_60⟩ := u
      obtain ⟨rfl, e1_60, hB2_60⟩ := hw
      have hP : va_P D vwCl [(sc, .inr (5, [.int (nI (rN ear (kN ear)))])), (h0, .inr (2, [.ref sc, .ref rd, .ref ib, .int (nI 2), .int lv, .int rk, .int (nI (onN (plN mk ear) on)), .int (nI (qtN (onN (plN mk ear) on) qt)), .int lb])), (rd, .inr (4, [.int (nI tgt), .ref ba, .int (nI nb2_60), .int (nI 0), .int (nI 0), .int (bI st2_60), .int (bI fa2_60), .int (bI bt2_60)])), (ba, .inl (cI, 40, .inl bf2_60))] H := hP
      have hD : va_D A [(sc, .inr (5, [.int (nI (rN ear (kN ear)))])), (h0, .inr (2, [.ref sc, .ref rd, .ref ib, .int (nI 2), .int lv, .int rk, .int (nI (onN (plN mk ear) on)), .int (nI (qtN (onN (plN mk ear) on) qt)), .int lb])), (rd, .inr (4, [.int (nI tgt), .ref ba, .int (nI nb2_60), .int (nI 0), .int (nI 0), .int (bI st2_60), .int (bI fa2_60), .int (bI bt2_60)])), (ba, .inl (cI, 40, .inl bf2_60))] := hD
      refine lv_to hc ?_
      refine lv_istore (lv' := [(4, .int (-1)), (3, .int (nI (plN mk ear))), (2, .int (nI (kN ear))), (0, .ref h0), (1, .int (nI mk))]) hx hb dX2_follow_63 hl (by decide) rfl (fun ls hl => ?_)
      refine lv_iload hx hb dX2_follow_65 (lv_at hl 0 rfl) ?_
      refine lv_iconst (v := (-1)) hx hb dX2_follow_67 rfl ?_
      refine lv_icmp_eq (tgt := 75) hx hb dX2_follow_68 (by decide) (fun c68 => ?_) (fun c68 => ?_)
      · skip
        
        refine lv_iload hx hb dX2_follow_75 (lv_at hl 0 rfl) ?_
        refine W_q hQ ?_
        exact rt_i (st2_60, fa2_60, bt2_60, nb2_60, nf2_60, bf2_60) hx hb hr hlocks dX2_follow_77 hS (hP.sub [1, 0, 2, 3] rfl) (hD.sub [1, 0, 2, 3] (by decide) rfl) (⟨rfl, e1_60, hB2_60⟩)
      · skip
        
        exact absurd rfl c68
    · skip
      have k45 : 2 = 1 := (nI_eq (a := 2) (b := 1) (by omega) (by omega)).mp c45
      exact False.elim (by omega)
  · skip
    have k32 : ¬ (qtN (onN (plN mk ear) on) qt) < 400 := fun zq => c32 ((nI_ltI (a := (qtN (onN (plN mk ear) on) qt)) (b := 400) (by omega) (by omega)).mpr zq)
    exact False.elim (by omega)

set_option maxHeartbeats 4000000 in
set_option maxRecDepth 100000 in
theorem c_X2_follow_read_end (l : Launch) (D : va_G) (cI cG : ClassId) (tt : Nat × Nat × Nat) (sz : Nat) (h0 : Nat) (sc : Nat) (rd : Nat) (ib : Nat) (lv : Int32) (rk : Int32) (on : Nat) (qt : Nat) (lb : Int32) (ear : Nat) (ba : Nat) (tgt : Nat) (nb : Nat) (g : Nat) (gb : Nat) (st : Bool) (fa : Bool) (bt : Bool) (bf : Nat → Int32) (nf : Nat → Nat) (mk : Nat) (k : Nat) (hm : mk < 2) (hear : ear < 2048) (hon : on ≤ 10) (hqt : qt < 400) (ht : tgt < 256) (hq : ¬ qtN (onN (plN mk ear) on) qt = 400) (hg : g < 16) (hgb : gb = 4) (hnb : nb < 80) (hB : RB bf nb nf) (hk : k ≤ 10) (hc : tgR tgt (2 * g + plN mk ear) (st, fa, bt, nb, nf) = nI k) : Met l yX2_follow wsX2_follow ({ frames := 5, cells := 0, slots := 0, locals := 98 }) (PC D cI cG tt [.ref h0, .int (nI mk)] [(h0, .inr (2, [.ref sc, .ref rd, .ref ib, .int (nI 2), .int lv, .int rk, .int (nI on), .int (nI qt), .int lb])), (sc, .inr (5, [.int (nI ear)])), (rd, .inr (4, [.int (nI tgt), .ref ba, .int (nI nb), .int (nI g), .int (nI gb), .int (bI st), .int (bI fa), .int (bI bt)])), (ba, .inl (cI, 40, .inl bf))] sz) (QI (fun (r : Int32) (u : (Nat → Int32)) => match u with | bf2 => r = nI k ∧ RB bf2 nb nf) (fun (u : (Nat → Int32)) => match u with | bf2 => [(h0, .inr (2, [.ref sc, .ref rd, .ref ib, .int (nI 1), .int lv, .int rk, .int (nI (onN (plN mk ear) on)), .int (nI (qtN (onN (plN mk ear) on) qt)), .int (nI 0)])), (sc, .inr (5, [.int (nI (rN ear (kN ear)))])), (rd, .inr (4, [.int (nI tgt), .ref ba, .int (nI nb), .int (nI 0), .int (nI 0), .int (bI st), .int (bI fa), .int (bI bt)])), (ba, .inl (cI, 40, .inl bf2))]) D (va_A [(h0, .inr (2, [.ref sc, .ref rd, .ref ib, .int (nI 2), .int lv, .int rk, .int (nI on), .int (nI qt), .int lb])), (sc, .inr (5, [.int (nI ear)])), (rd, .inr (4, [.int (nI tgt), .ref ba, .int (nI nb), .int (nI g), .int (nI gb), .int (bI st), .int (bI fa), .int (bI bt)])), (ba, .inl (cI, 40, .inl bf))] sz)) 0 0 (va_A [(h0, .inr (2, [.ref sc, .ref rd, .ref ib, .int (nI 2), .int lv, .int rk, .int (nI on), .int (nI qt), .int lb])), (sc, .inr (5, [.int (nI ear)])), (rd, .inr (4, [.int (nI tgt), .ref ba, .int (nI nb), .int (nI g), .int (nI gb), .int (bI st), .int (bI fa), .int (bI bt)])), (ba, .inl (cI, 40, .inl bf))] sz) := by
  refine ct_of (y := yX2_follow) (cc := cX2_follow) (maxL := 5) (ret := (some .int)) (Qf := QI (fun (r : Int32) (u : (Nat → Int32)) => match u with | bf2 => r = nI k ∧ RB bf2 nb nf) (fun (u : (Nat → Int32)) => match u with | bf2 => [(h0, .inr (2, [.ref sc, .ref rd, .ref ib, .int (nI 1), .int lv, .int rk, .int (nI (onN (plN mk ear) on)), .int (nI (qtN (onN (plN mk ear) on) qt)), .int (nI 0)])), (sc, .inr (5, [.int (nI (rN ear (kN ear)))])), (rd, .inr (4, [.int (nI tgt), .ref ba, .int (nI nb), .int (nI 0), .int (nI 0), .int (bI st), .int (bI fa), .int (bI bt)])), (ba, .inl (cI, 40, .inl bf2))]) D) (by decide) rfl ?_
  intro p e s m args below meth c A Q R H locs hR hQ hx hb hml hr hts hown hlocks hin hP hD hE hT hA hS
  have hK := hE.1
  have hl := lv_entry ([.ref h0, .int (nI mk)]) (n := 5) (Nat.le_of_ble_eq_true rfl)
  rw [lg_entry_eq]
  generalize (lg_sl ([.ref h0, .int (nI mk)]) ++ List.replicate (5 - (lg_sl ([.ref h0, .int (nI mk)])).length) Slot.unset).toArray = ls at hl ⊢
  have hl : lv_has ls 5 [(0, .ref h0), (1, .int (nI mk))] := hl
  have hk2 := kN_lt ear
  have hp2 := plN_lt mk ear
  have hq4 := qtN_le (onN (plN mk ear) on) qt
  have ho4 := onN_le (plN mk ear) on
  refine lv_aload_n hx hb dX2_follow_0 rfl (lv_at hl 0 rfl) ?_
  refine va_get (D := D) (ci := 2) (v := .ref sc) (C := RX2) (T := TX2) (N := 9) hx hb hts inX2_follow_X2 hown hK hP 0 rfl rfl 0 (by decide) (hts (.fieldLink RX2 14 "ScrambledLine$Listener" "scrambler" "LScrambledLine$Scrambler;") (by decide +kernel)) (fun _ h9 => h9) rfl dX2_follow_1 ?_
  refine ca_i (wr := [(h0, .inr (2, [.ref sc, .ref rd, .ref ib, .int (nI 2), .int lv, .int rk, .int (nI on), .int (nI qt), .int lb])), (rd, .inr (4, [.int (nI tgt), .ref ba, .int (nI nb), .int (nI g), .int (nI gb), .int (bI st), .int (bI fa), .int (bI bt)])), (ba, .inl (cI, 40, .inl bf))]) (ru_V (As := []) (rest := []) ⟨hx, hb, hml, hown, hts⟩ (c_X5_key l D cI cG tt H.size sc ear (by omega)) (cwV 0 hts gX2_follow_X5_key rfl rfl rfl (by decide +kernel) ⟨by rw [hR]; exact Nat.le_of_ble_eq_true rfl, by rw [hR]; exact Nat.le_of_ble_eq_true rfl⟩) hP hD hE hT hS hA [1] rfl (by decide) (va_recv hK hP (ci := 5) (q0 := 1) rfl rfl) rfl hl.1 rfl (Nat.le_of_ble_eq_true rfl) dX2_follow_4 ⟨by rw [hR]; exact Nat.le_of_ble_eq_true rfl, by rw [hR]; exact Nat.le_of_ble_eq_true rfl⟩) hP hD hS hA [1] [0, 2, 3] rfl rfl (by decide) (by decide) (fun r4 u H locs hw hP hD hS => ?_)
  obtain rfl := hw
  have hP : va_P D vwCl [(h0, .inr (2, [.ref sc, .ref rd, .ref ib, .int (nI 2), .int lv, .int rk, .int (nI on), .int (nI qt), .int lb])), (rd, .inr (4, [.int (nI tgt), .ref ba, .int (nI nb), .int (nI g), .int (nI gb), .int (bI st), .int (bI fa), .int (bI bt)])), (ba, .inl (cI, 40, .inl bf)), (sc, .inr (5, [.int (nI ear)]))] H := hP
  have hD : va_D A [(h0, .inr (2, [.ref sc, .ref rd, .ref ib, .int (nI 2), .int lv, .int rk, .int (nI on), .int (nI qt), .int lb])), (rd, .inr (4, [.int (nI tgt), .ref ba, .int (nI nb), .int (nI g), .int (nI gb), .int (bI st), .int (bI fa), .int (bI bt)])), (ba, .inl (cI, 40, .inl bf)), (sc, .inr (5, [.int (nI ear)]))] := hD
  refine lv_istore_n (lv' := [(2, .int (nI (kN ear))), (0, .ref h0), (1, .int (nI mk))]) hx hb dX2_follow_7 rfl hl (by decide) rfl (fun ls hl => ?_)
  refine lv_iload_n hx hb dX2_follow_8 rfl (lv_at hl 2 rfl) ?_
  refine lv_iload_n hx hb dX2_follow_9 rfl (lv_at hl 0 rfl) ?_
  refine lv_ixor hx hb dX2_follow_10 ?_
  refine lv_to (y := nI (plN mk ear)) (xr hm (kN_lt ear)) ?_
  refine lv_istore_n (lv' := [(3, .int (nI (plN mk ear))), (2, .int (nI (kN ear))), (0, .ref h0), (1, .int (nI mk))]) hx hb dX2_follow_11 rfl hl (by decide) rfl (fun ls hl => ?_)
  refine lv_aload_n hx hb dX2_follow_12 rfl (lv_at hl 2 rfl) ?_
  refine va_get (D := D) (ci := 2) (v := .ref sc) (C := RX2) (T := TX2) (N := 9) hx hb hts inX2_follow_X2 hown hK hP 0 rfl rfl 0 (by decide) (hts (.fieldLink RX2 14 "ScrambledLine$Listener" "scrambler" "LScrambledLine$Scrambler;") (by decide +kernel)) (fun _ h9 => h9) rfl dX2_follow_13 ?_
  refine lv_iload_n hx hb dX2_follow_16 rfl (lv_at hl 1 rfl) ?_
  refine ca_v (wr := [(h0, .inr (2, [.ref sc, .ref rd, .ref ib, .int (nI 2), .int lv, .int rk, .int (nI on), .int (nI qt), .int lb])), (rd, .inr (4, [.int (nI tgt), .ref ba, .int (nI nb), .int (nI g), .int (nI gb), .int (bI st), .int (bI fa), .int (bI bt)])), (ba, .inl (cI, 40, .inl bf))]) (ru_V (As := [.int (nI (kN ear))]) (rest := []) ⟨hx, hb, hml, hown, hts⟩ (c_X5_shiftIn l D cI cG tt H.size sc ear (kN ear) (by omega) (by omega)) (cwV 1 hts gX2_follow_X5_shiftIn rfl rfl rfl (by decide +kernel) ⟨by rw [hR]; exact Nat.le_of_ble_eq_true rfl, by rw [hR]; exact Nat.le_of_ble_eq_true rfl⟩) hP hD hE hT hS hA [3] rfl (by decide) (va_recv hK hP (ci := 5) (q0 := 3) rfl rfl) rfl hl.1 rfl (Nat.le_of_ble_eq_true rfl) dX2_follow_17 ⟨by rw [hR]; exact Nat.le_of_ble_eq_true rfl, by rw [hR]; exact Nat.le_of_ble_eq_true rfl⟩) hP hD hS hA [3] [0, 1, 2] rfl rfl (by decide) (by decide) (fun u H locs hw hP hD hS => ?_)
  have hP : va_P D vwCl [(h0, .inr (2, [.ref sc, .ref rd, .ref ib, .int (nI 2), .int lv, .int rk, .int (nI on), .int (nI qt), .int lb])), (rd, .inr (4, [.int (nI tgt), .ref ba, .int (nI nb), .int (nI g), .int (nI gb), .int (bI st), .int (bI fa), .int (bI bt)])), (ba, .inl (cI, 40, .inl bf)), (sc, .inr (5, [.int (nI (rN ear (kN ear)))]))] H := hP
  have hD : va_D A [(h0, .inr (2, [.ref sc, .ref rd, .ref ib, .int (nI 2), .int lv, .int rk, .int (nI on), .int (nI qt), .int lb])), (rd, .inr (4, [.int (nI tgt), .ref ba, .int (nI nb), .int (nI g), .int (nI gb), .int (bI st), .int (bI fa), .int (bI bt)])), (ba, .inl (cI, 40, .inl bf)), (sc, .inr (5, [.int (nI (rN ear (kN ear)))]))] := hD
  refine lv_aload_n hx hb dX2_follow_20 rfl (lv_at hl 2 rfl) ?_
  refine lv_iload_n hx hb dX2_follow_21 rfl (lv_at hl 0 rfl) ?_
  refine ca_v (wr := [(rd, .inr (4, [.int (nI tgt), .ref ba, .int (nI nb), .int (nI g), .int (nI gb), .int (bI st), .int (bI fa), .int (bI bt)])), (ba, .inl (cI, 40, .inl bf)), (sc, .inr (5, [.int (nI (rN ear (kN ear)))]))]) (ru_V (As := [.int (nI (plN mk ear))]) (rest := []) ⟨hx, hb, hml, hown, hts⟩ (c_X2_countQuiet l D cI cG tt H.size h0 sc rd ib (nI 2) lv rk on qt lb (plN mk ear) (by omega) (by omega) (by omega)) (cwV 1 hts gX2_follow_X2_countQuiet rfl rfl rfl (by decide +kernel) ⟨by rw [hR]; exact Nat.le_of_ble_eq_true rfl, by rw [hR]; exact Nat.le_of_ble_eq_true rfl⟩) hP hD hE hT hS hA [0] rfl (by decide) (va_recv hK hP (ci := 2) (q0 := 0) rfl rfl) rfl hl.1 rfl (Nat.le_of_ble_eq_true rfl) dX2_follow_22 ⟨by rw [hR]; exact Nat.le_of_ble_eq_true rfl, by rw [hR]; exact Nat.le_of_ble_eq_true rfl⟩) hP hD hS hA [0] [1, 2, 3] rfl rfl (by decide) (by decide) (fun u H locs hw hP hD hS => ?_)
  have hP : va_P D vwCl [(rd, .inr (4, [.int (nI tgt), .ref ba, .int (nI nb), .int (nI g), .int (nI gb), .int (bI st), .int (bI fa), .int (bI bt)])), (ba, .inl (cI, 40, .inl bf)), (sc, .inr (5, [.int (nI (rN ear (kN ear)))])), (h0, .inr (2, [.ref sc, .ref rd, .ref ib, .int (nI 2), .int lv, .int rk, .int (nI (onN (plN mk ear) on)), .int (nI (qtN (onN (plN mk ear) on) qt)), .int lb]))] H := hP
  have hD : va_D A [(rd, .inr (4, [.int (nI tgt), .ref ba, .int (nI nb), .int (nI g), .int (nI gb), .int (bI st), .int (bI fa), .int (bI bt)])), (ba, .inl (cI, 40, .inl bf)), (sc, .inr (5, [.int (nI (rN ear (kN ear)))])), (h0, .inr (2, [.ref sc, .ref rd, .ref ib, .int (nI 2), .int lv, .int rk, .int (nI (onN (plN mk ear) on)), .int (nI (qtN (onN (plN mk ear) on) qt)), .int lb]))] := hD
  refine lv_aload_n hx hb dX2_follow_25 rfl (lv_at hl 2 rfl) ?_
  refine va_get (D := D) (ci := 2) (v := .int (nI (qtN (onN (plN mk ear) on) qt))) (C := RX2) (T := TX2) (N := 9) hx hb hts inX2_follow_X2 hown hK hP 3 rfl rfl 7 (by decide) (hts (.fieldLink RX2 40 "ScrambledLine$Listener" "quiet" "I") (by decide +kernel)) (fun _ h9 => h9) rfl dX2_follow_26 ?_
  refine lv_sipush (v := nI 400) hx hb dX2_follow_29 rfl ?_
  refine lv_icmp_lt (tgt := 40) hx hb dX2_follow_32 (by decide) (fun c32 => ?_) (fun c32 => ?_)
  · skip
    have k32 : (qtN (onN (plN mk ear) on) qt) < 400 := (nI_ltI (a := (qtN (onN (plN mk ear) on) qt)) (b := 400) (by omega) (by omega)).mp c32
    refine lv_aload_n hx hb dX2_follow_40 rfl (lv_at hl 2 rfl) ?_
    refine va_get (D := D) (ci := 2) (v := .int (nI 2)) (C := RX2) (T := TX2) (N := 9) hx hb hts inX2_follow_X2 hown hK hP 3 rfl rfl 3 (by decide) (hts (.fieldLink RX2 27 "ScrambledLine$Listener" "mode" "I") (by decide +kernel)) (fun _ h9 => h9) rfl dX2_follow_41 ?_
    refine lv_iconst (v := nI 1) hx hb dX2_follow_44 rfl ?_
    refine lv_icmp_ne (tgt := 55) hx hb dX2_follow_45 (by decide) (fun c45 => ?_) (fun c45 => ?_)
    · skip
      have k45 : ¬ 2 = 1 := fun zq => c45 ((nI_eq (a := 2) (b := 1) (by omega) (by omega)).mpr zq)
      refine lv_aload_n hx hb dX2_follow_55 rfl (lv_at hl 2 rfl) ?_
      refine va_get (D := D) (ci := 2) (v := .ref rd) (C := RX2) (T := TX2) (N := 9) hx hb hts inX2_follow_X2 hown hK hP 3 rfl rfl 1 (by decide) (hts (.fieldLink RX2 49 "ScrambledLine$Listener" "reader" "LScrambledLine$Reader;") (by decide +kernel)) (fun _ h9 => h9) rfl dX2_follow_56 ?_
      refine lv_iload_n hx hb dX2_follow_59 rfl (lv_at hl 0 rfl) ?_
      refine ca_i (wr := [(sc, .inr (5, [.int (nI (rN ear (kN ear)))])), (h0, .inr (2, [.ref sc, .ref rd, .ref ib, .int (nI 2), .int lv, .int rk, .int (nI (onN (plN mk ear) on)), .int (nI (qtN (onN (plN mk ear) on) qt)), .int lb]))]) (ru_V (As := [.int (nI (plN mk ear))]) (rest := []) ⟨hx, hb, hml, hown, hts⟩ (c_X4_takeBit_end l D cI cG tt H.size rd ba tgt nb g gb st fa bt bf nf (plN mk ear) (by omega) (by omega) (by omega) (by omega) (by omega) hB) (cwV 1 hts gX2_follow_X4_takeBit rfl rfl rfl (by decide +kernel) ⟨by rw [hR]; exact Nat.le_of_ble_eq_true rfl, by rw [hR]; exact Nat.le_of_ble_eq_true rfl⟩) hP hD hE hT hS hA [0, 1] rfl (by decide) (va_recv hK hP (ci := 4) (q0 := 0) rfl rfl) rfl hl.1 rfl (Nat.le_of_ble_eq_true rfl) dX2_follow_60 ⟨by rw [hR]; exact Nat.le_of_ble_eq_true rfl, by rw [hR]; exact Nat.le_of_ble_eq_true rfl⟩) hP hD hS hA [0, 1] [2, 3] rfl rfl (by decide) (by decide) (fun r60 u H locs hw hP hD hS => ?_)
      obtain ⟨st2_60, fa2_60, bt2_60, nb2_60, nf2_60, bf2_60⟩ := u
      obtain ⟨rfl, e1_60, hB2_60⟩ := hw
      have hP : va_P D vwCl [(sc, .inr (5, [.int (nI (rN ear (kN ear)))])), (h0, .inr (2, [.ref sc, .ref rd, .ref ib, .int (nI 2), .int lv, .int rk, .int (nI (onN (plN mk ear) on)), .int (nI (qtN (onN (plN mk ear) on) qt)), .int lb])), (rd, .inr (4, [.int (nI tgt), .ref ba, .int (nI nb2_60), .int (nI 0), .int (nI 0), .int (bI st2_60), .int (bI fa2_60), .int (bI bt2_60)])), (ba, .inl (cI, 40, .inl bf2_60))] H := hP
      have hD : va_D A [(sc, .inr (5, [.int (nI (rN ear (kN ear)))])), (h0, .inr (2, [.ref sc, .ref rd, .ref ib, .int (nI 2), .int lv, .int rk, .int (nI (onN (plN mk ear) on)), .int (nI (qtN (onN (plN mk ear) on) qt)), .int lb])), (rd, .inr (4, [.int (nI tgt), .ref ba, .int (nI nb2_60), .int (nI 0), .int (nI 0), .int (bI st2_60), .int (bI fa2_60), .int (bI bt2_60)])), (ba, .inl (cI, 40, .inl bf2_60))] := hD
      refine lv_to hc ?_
      obtain ⟨rfl, rfl, rfl, rfl, rfl⟩ := tg_end hk hc e1_60
      refine lv_istore (lv' := [(4, .int (nI k)), (3, .int (nI (plN mk ear))), (2, .int (nI (kN ear))), (0, .ref h0), (1, .int (nI mk))]) hx hb dX2_follow_63 hl (by decide) rfl (fun ls hl => ?_)
      refine lv_iload hx hb dX2_follow_65 (lv_at hl 0 rfl) ?_
      refine lv_iconst (v := (-1)) hx hb dX2_follow_67 rfl ?_
      refine lv_icmp_eq (tgt := 75) hx hb dX2_follow_68 (by decide) (fun c68 => ?_) (fun c68 => ?_)
      · skip
        
        exact absurd c68 (nI_m1 hk)
      · skip
        
        refine lv_aload_n hx hb dX2_follow_71 rfl (lv_at hl 3 rfl) ?_
        refine ca_v (wr := [(sc, .inr (5, [.int (nI (rN ear (kN ear)))])), (rd, .inr (4, [.int (nI tgt), .ref ba, .int (nI nb), .int (nI 0), .int (nI 0), .int (bI st), .int (bI fa), .int (bI bt)])), (ba, .inl (cI, 40, .inl bf2_60))]) (ru_V (As := []) (rest := []) ⟨hx, hb, hml, hown, hts⟩ (c_X2_beginHunt l D cI cG tt H.size h0 sc rd ib (nI 2) lv rk (nI (onN (plN mk ear) on)) (nI (qtN (onN (plN mk ear) on) qt)) lb) (cwV 0 hts gX2_follow_X2_beginHunt rfl rfl rfl (by decide +kernel) ⟨by rw [hR]; exact Nat.le_of_ble_eq_true rfl, by rw [hR]; exact Nat.le_of_ble_eq_true rfl⟩) hP hD hE hT hS hA [1] rfl (by decide) (va_recv hK hP (ci := 2) (q0 := 1) rfl rfl) rfl hl.1 rfl (Nat.le_of_ble_eq_true rfl) dX2_follow_72 ⟨by rw [hR]; exact Nat.le_of_ble_eq_true rfl, by rw [hR]; exact Nat.le_of_ble_eq_true rfl⟩) hP hD hS hA [1] [0, 2, 3] rfl rfl (by decide) (by decide) (fun u H locs hw hP hD hS => ?_)
        have hP : va_P D vwCl [(sc, .inr (5, [.int (nI (rN ear (kN ear)))])), (rd, .inr (4, [.int (nI tgt), .ref ba, .int (nI nb), .int (nI 0), .int (nI 0), .int (bI st), .int (bI fa), .int (bI bt)])), (ba, .inl (cI, 40, .inl bf2_60)), (h0, .inr (2, [.ref sc, .ref rd, .ref ib, .int (nI 1), .int lv, .int rk, .int (nI (onN (plN mk ear) on)), .int (nI (qtN (onN (plN mk ear) on) qt)), .int (nI 0)]))] H := hP
        have hD : va_D A [(sc, .inr (5, [.int (nI (rN ear (kN ear)))])), (rd, .inr (4, [.int (nI tgt), .ref ba, .int (nI nb), .int (nI 0), .int (nI 0), .int (bI st), .int (bI fa), .int (bI bt)])), (ba, .inl (cI, 40, .inl bf2_60)), (h0, .inr (2, [.ref sc, .ref rd, .ref ib, .int (nI 1), .int lv, .int rk, .int (nI (onN (plN mk ear) on)), .int (nI (qtN (onN (plN mk ear) on) qt)), .int (nI 0)]))] := hD
        refine lv_iload hx hb dX2_follow_75 (lv_at hl 0 rfl) ?_
        refine W_q hQ ?_
        exact rt_i bf2_60 hx hb hr hlocks dX2_follow_77 hS (hP.sub [3, 0, 1, 2] rfl) (hD.sub [3, 0, 1, 2] (by decide) rfl) (⟨rfl, hB2_60⟩)
    · skip
      have k45 : 2 = 1 := (nI_eq (a := 2) (b := 1) (by omega) (by omega)).mp c45
      exact False.elim (by omega)
  · skip
    have k32 : ¬ (qtN (onN (plN mk ear) on) qt) < 400 := fun zq => c32 ((nI_ltI (a := (qtN (onN (plN mk ear) on) qt)) (b := 400) (by omega) (by omega)).mpr zq)
    exact False.elim (by omega)

theorem inX2_hear_X2 : ∀ w ∈ u_ws RX2 TX2 9, w ∈ wsX2_hear := by decide +kernel
set_option maxHeartbeats 4000000 in
set_option maxRecDepth 100000 in
theorem c_X2_hear_un_no (l : Launch) (D : va_G) (cI cG : ClassId) (tt : Nat × Nat × Nat) (sz : Nat) (h0 : Nat) (sc : Nat) (rd : Nat) (ib : Nat) (lv : Int32) (run : Nat) (on : Int32) (qt : Int32) (lb : Int32) (ear : Nat) (x : Int32) (hrun : run < 30) (hear : ear < 2048) (hh : ¬ rkN ear (mkN x lv) run = 30) : Met l yX2_hear wsX2_hear ({ frames := 6, cells := 0, slots := 0, locals := 122 }) (PC D cI cG tt [.ref h0, .int x] [(h0, .inr (2, [.ref sc, .ref rd, .ref ib, .int (nI 0), .int lv, .int (nI run), .int on, .int qt, .int lb])), (sc, .inr (5, [.int (nI ear)]))] sz) (QI (fun (r : Int32) (u : Unit) => r = nI 0) (fun (u : Unit) => [(h0, .inr (2, [.ref sc, .ref rd, .ref ib, .int (nI 0), .int x, .int (nI (rkN ear (mkN x lv) run)), .int on, .int qt, .int lb])), (sc, .inr (5, [.int (nI (rN ear (1 - mkN x lv)))]))]) D (va_A [(h0, .inr (2, [.ref sc, .ref rd, .ref ib, .int (nI 0), .int lv, .int (nI run), .int on, .int qt, .int lb])), (sc, .inr (5, [.int (nI ear)]))] sz)) 0 0 (va_A [(h0, .inr (2, [.ref sc, .ref rd, .ref ib, .int (nI 0), .int lv, .int (nI run), .int on, .int qt, .int lb])), (sc, .inr (5, [.int (nI ear)]))] sz) := by
  refine ct_of (y := yX2_hear) (cc := cX2_hear) (maxL := 4) (ret := (some .boolean)) (Qf := QI (fun (r : Int32) (u : Unit) => r = nI 0) (fun (u : Unit) => [(h0, .inr (2, [.ref sc, .ref rd, .ref ib, .int (nI 0), .int x, .int (nI (rkN ear (mkN x lv) run)), .int on, .int qt, .int lb])), (sc, .inr (5, [.int (nI (rN ear (1 - mkN x lv)))]))]) D) (by decide) rfl ?_
  intro p e s m args below meth c A Q R H locs hR hQ hx hb hml hr hts hown hlocks hin hP hD hE hT hA hS
  have hK := hE.1
  have hl := lv_entry ([.ref h0, .int x]) (n := 4) (Nat.le_of_ble_eq_true rfl)
  rw [lg_entry_eq]
  generalize (lg_sl ([.ref h0, .int x]) ++ List.replicate (4 - (lg_sl ([.ref h0, .int x])).length) Slot.unset).toArray = ls at hl ⊢
  have hl : lv_has ls 4 [(0, .ref h0), (1, .int x)] := hl
  refine lv_iload_n hx hb dX2_hear_0 rfl (lv_at hl 1 rfl) ?_
  refine lv_aload_n hx hb dX2_hear_1 rfl (lv_at hl 0 rfl) ?_
  refine va_get (D := D) (ci := 2) (v := .int lv) (C := RX2) (T := TX2) (N := 9) hx hb hts inX2_hear_X2 hown hK hP 0 rfl rfl 4 (by decide) (hts (.fieldLink RX2 31 "ScrambledLine$Listener" "levelBefore" "I") (by decide +kernel)) (fun _ h9 => h9) rfl dX2_hear_2 ?_
  have L13 : ∀ (_ : Unit), ∀ (H : Heap) (locs : List Loc), va_P D vwCl [(h0, .inr (2, [.ref sc, .ref rd, .ref ib, .int (nI 0), .int lv, .int (nI run), .int on, .int qt, .int lb])), (sc, .inr (5, [.int (nI ear)]))] H → va_D A [(h0, .inr (2, [.ref sc, .ref rd, .ref ib, .int (nI 0), .int lv, .int (nI run), .int on, .int qt, .int lb])), (sc, .inr (5, [.int (nI ear)]))] → va_S A s.heap H locs → ∀ ls : Array Slot, lv_has ls 4 [(0, .ref h0), (1, .int x)] → W p l e R s m args below meth c H locs 0 0 Q (F0 m 13 ls [.int (nI (mkN x lv))]) := by
    intro _  H locs hP hD hS ls hl
    have hmk := mkN_lt x lv
    refine lv_istore_n (lv' := [(2, .int (nI (mkN x lv))), (0, .ref h0), (1, .int x)]) hx hb dX2_hear_13 rfl hl (by decide) rfl (fun ls hl => ?_)
    refine lv_aload_n hx hb dX2_hear_14 rfl (lv_at hl 1 rfl) ?_
    refine lv_iload_n hx hb dX2_hear_15 rfl (lv_at hl 2 rfl) ?_
    refine va_put (D := D) (ci := 2) (v := .int x) (ty := .int) (C := RX2) (T := TX2) (N := 9) hx hb hts inX2_hear_X2 tyX2 tyX2_ok nmX2 hown hK hP hD hS 0 rfl rfl 4 (by decide) (hts (.fieldLink RX2 31 "ScrambledLine$Listener" "levelBefore" "I") (by decide +kernel)) (fun _ h9 => h9) rfl (by decide +kernel) rfl rfl (Nat.le_of_ble_eq_true rfl) dX2_hear_16 (fun H locs hP hD hS => ?_)
    have hP : va_P D vwCl [(h0, .inr (2, [.ref sc, .ref rd, .ref ib, .int (nI 0), .int x, .int (nI run), .int on, .int qt, .int lb])), (sc, .inr (5, [.int (nI ear)]))] H := hP
    have hD : va_D A [(h0, .inr (2, [.ref sc, .ref rd, .ref ib, .int (nI 0), .int x, .int (nI run), .int on, .int qt, .int lb])), (sc, .inr (5, [.int (nI ear)]))] := hD
    refine lv_aload_n hx hb dX2_hear_19 rfl (lv_at hl 1 rfl) ?_
    refine va_get (D := D) (ci := 2) (v := .int (nI 0)) (C := RX2) (T := TX2) (N := 9) hx hb hts inX2_hear_X2 hown hK hP 0 rfl rfl 3 (by decide) (hts (.fieldLink RX2 27 "ScrambledLine$Listener" "mode" "I") (by decide +kernel)) (fun _ h9 => h9) rfl dX2_hear_20 ?_
    refine lv_if_ne (tgt := 33) hx hb dX2_hear_23 (by decide) (fun c23 => ?_) (fun c23 => ?_)
    · skip
      have k23 : ¬ 0 = 0 := fun zq => c23 ((nI_eq (a := 0) (b := 0) (by omega) (by omega)).mpr zq)
      exact False.elim (by omega)
    · skip
      have k23 : 0 = 0 := (nI_eq (a := 0) (b := 0) (by omega) (by omega)).mp c23
      refine lv_aload_n hx hb dX2_hear_26 rfl (lv_at hl 1 rfl) ?_
      refine lv_iload_n hx hb dX2_hear_27 rfl (lv_at hl 0 rfl) ?_
      refine ca_v (wr := []) (ru_V (As := [.int (nI (mkN x lv))]) (rest := []) ⟨hx, hb, hml, hown, hts⟩ (c_X2_seekLock_no l D cI cG tt H.size h0 sc rd ib x run on qt lb ear (mkN x lv) (by omega) (by omega) (by omega) (by omega)) (cwV 1 hts gX2_hear_X2_seekLock rfl rfl rfl (by decide +kernel) ⟨by rw [hR]; exact Nat.le_of_ble_eq_true rfl, by rw [hR]; exact Nat.le_of_ble_eq_true rfl⟩) hP hD hE hT hS hA [0, 1] rfl (by decide) (va_recv hK hP (ci := 2) (q0 := 0) rfl rfl) rfl hl.1 rfl (Nat.le_of_ble_eq_true rfl) dX2_hear_28 ⟨by rw [hR]; exact Nat.le_of_ble_eq_true rfl, by rw [hR]; exact Nat.le_of_ble_eq_true rfl⟩) hP hD hS hA [0, 1] [] rfl rfl (by decide) (by decide) (fun u H locs hw hP hD hS => ?_)
      have hP : va_P D vwCl [(h0, .inr (2, [.ref sc, .ref rd, .ref ib, .int (nI 0), .int x, .int (nI (rkN ear (mkN x lv) run)), .int on, .int qt, .int lb])), (sc, .inr (5, [.int (nI (rN ear (1 - (mkN x lv))))]))] H := hP
      have hD : va_D A [(h0, .inr (2, [.ref sc, .ref rd, .ref ib, .int (nI 0), .int x, .int (nI (rkN ear (mkN x lv) run)), .int on, .int qt, .int lb])), (sc, .inr (5, [.int (nI (rN ear (1 - (mkN x lv))))]))] := hD
      refine lv_iconst (v := nI 0) hx hb dX2_hear_31 rfl ?_
      refine W_q hQ ?_
      exact rt_z () hx hb hr hlocks dX2_hear_32 hS hP hD rfl rfl
  refine lv_icmp_eq (tgt := 12) hx hb dX2_hear_5 (by decide) (fun c5 => ?_) (fun c5 => ?_)
  · skip
    
    refine lv_iconst (v := nI 0) hx hb dX2_hear_12 rfl ?_
    refine lv_to (y := nI (mkN x lv)) (congrArg nI (mkN_0 c5).symm) ?_
    exact L13 () _ _ hP hD hS _ (lv_sub hl [0, 1] rfl)
  · skip
    
    refine lv_iconst (v := nI 1) hx hb dX2_hear_8 rfl ?_
    refine lv_to (y := nI (mkN x lv)) (congrArg nI (mkN_1 c5).symm) ?_
    refine lv_goto (tgt := 13) hx hb dX2_hear_9 (by decide) ?_
    exact L13 () _ _ hP hD hS _ (lv_sub hl [0, 1] rfl)

set_option maxHeartbeats 4000000 in
set_option maxRecDepth 100000 in
theorem c_X2_hear_un_yes (l : Launch) (D : va_G) (cI cG : ClassId) (tt : Nat × Nat × Nat) (sz : Nat) (h0 : Nat) (sc : Nat) (rd : Nat) (ib : Nat) (lv : Int32) (run : Nat) (on : Int32) (qt : Int32) (lb : Int32) (ear : Nat) (x : Int32) (hrun : run < 30) (hear : ear < 2048) (hh : rkN ear (mkN x lv) run = 30) : Met l yX2_hear wsX2_hear ({ frames := 6, cells := 0, slots := 0, locals := 122 }) (PC D cI cG tt [.ref h0, .int x] [(h0, .inr (2, [.ref sc, .ref rd, .ref ib, .int (nI 0), .int lv, .int (nI run), .int on, .int qt, .int lb])), (sc, .inr (5, [.int (nI ear)]))] sz) (QI (fun (r : Int32) (u : Unit) => r = nI 0) (fun (u : Unit) => [(h0, .inr (2, [.ref sc, .ref rd, .ref ib, .int (nI 1), .int x, .int (nI (rkN ear (mkN x lv) run)), .int (nI 0), .int (nI 0), .int (nI 0)])), (sc, .inr (5, [.int (nI (rN ear (1 - mkN x lv)))]))]) D (va_A [(h0, .inr (2, [.ref sc, .ref rd, .ref ib, .int (nI 0), .int lv, .int (nI run), .int on, .int qt, .int lb])), (sc, .inr (5, [.int (nI ear)]))] sz)) 0 0 (va_A [(h0, .inr (2, [.ref sc, .ref rd, .ref ib, .int (nI 0), .int lv, .int (nI run), .int on, .int qt, .int lb])), (sc, .inr (5, [.int (nI ear)]))] sz) := by
  refine ct_of (y := yX2_hear) (cc := cX2_hear) (maxL := 4) (ret := (some .boolean)) (Qf := QI (fun (r : Int32) (u : Unit) => r = nI 0) (fun (u : Unit) => [(h0, .inr (2, [.ref sc, .ref rd, .ref ib, .int (nI 1), .int x, .int (nI (rkN ear (mkN x lv) run)), .int (nI 0), .int (nI 0), .int (nI 0)])), (sc, .inr (5, [.int (nI (rN ear (1 - mkN x lv)))]))]) D) (by decide) rfl ?_
  intro p e s m args below meth c A Q R H locs hR hQ hx hb hml hr hts hown hlocks hin hP hD hE hT hA hS
  have hK := hE.1
  have hl := lv_entry ([.ref h0, .int x]) (n := 4) (Nat.le_of_ble_eq_true rfl)
  rw [lg_entry_eq]
  generalize (lg_sl ([.ref h0, .int x]) ++ List.replicate (4 - (lg_sl ([.ref h0, .int x])).length) Slot.unset).toArray = ls at hl ⊢
  have hl : lv_has ls 4 [(0, .ref h0), (1, .int x)] := hl
  refine lv_iload_n hx hb dX2_hear_0 rfl (lv_at hl 1 rfl) ?_
  refine lv_aload_n hx hb dX2_hear_1 rfl (lv_at hl 0 rfl) ?_
  refine va_get (D := D) (ci := 2) (v := .int lv) (C := RX2) (T := TX2) (N := 9) hx hb hts inX2_hear_X2 hown hK hP 0 rfl rfl 4 (by decide) (hts (.fieldLink RX2 31 "ScrambledLine$Listener" "levelBefore" "I") (by decide +kernel)) (fun _ h9 => h9) rfl dX2_hear_2 ?_
  have L13 : ∀ (_ : Unit), ∀ (H : Heap) (locs : List Loc), va_P D vwCl [(h0, .inr (2, [.ref sc, .ref rd, .ref ib, .int (nI 0), .int lv, .int (nI run), .int on, .int qt, .int lb])), (sc, .inr (5, [.int (nI ear)]))] H → va_D A [(h0, .inr (2, [.ref sc, .ref rd, .ref ib, .int (nI 0), .int lv, .int (nI run), .int on, .int qt, .int lb])), (sc, .inr (5, [.int (nI ear)]))] → va_S A s.heap H locs → ∀ ls : Array Slot, lv_has ls 4 [(0, .ref h0), (1, .int x)] → W p l e R s m args below meth c H locs 0 0 Q (F0 m 13 ls [.int (nI (mkN x lv))]) := by
    intro _  H locs hP hD hS ls hl
    have hmk := mkN_lt x lv
    refine lv_istore_n (lv' := [(2, .int (nI (mkN x lv))), (0, .ref h0), (1, .int x)]) hx hb dX2_hear_13 rfl hl (by decide) rfl (fun ls hl => ?_)
    refine lv_aload_n hx hb dX2_hear_14 rfl (lv_at hl 1 rfl) ?_
    refine lv_iload_n hx hb dX2_hear_15 rfl (lv_at hl 2 rfl) ?_
    refine va_put (D := D) (ci := 2) (v := .int x) (ty := .int) (C := RX2) (T := TX2) (N := 9) hx hb hts inX2_hear_X2 tyX2 tyX2_ok nmX2 hown hK hP hD hS 0 rfl rfl 4 (by decide) (hts (.fieldLink RX2 31 "ScrambledLine$Listener" "levelBefore" "I") (by decide +kernel)) (fun _ h9 => h9) rfl (by decide +kernel) rfl rfl (Nat.le_of_ble_eq_true rfl) dX2_hear_16 (fun H locs hP hD hS => ?_)
    have hP : va_P D vwCl [(h0, .inr (2, [.ref sc, .ref rd, .ref ib, .int (nI 0), .int x, .int (nI run), .int on, .int qt, .int lb])), (sc, .inr (5, [.int (nI ear)]))] H := hP
    have hD : va_D A [(h0, .inr (2, [.ref sc, .ref rd, .ref ib, .int (nI 0), .int x, .int (nI run), .int on, .int qt, .int lb])), (sc, .inr (5, [.int (nI ear)]))] := hD
    refine lv_aload_n hx hb dX2_hear_19 rfl (lv_at hl 1 rfl) ?_
    refine va_get (D := D) (ci := 2) (v := .int (nI 0)) (C := RX2) (T := TX2) (N := 9) hx hb hts inX2_hear_X2 hown hK hP 0 rfl rfl 3 (by decide) (hts (.fieldLink RX2 27 "ScrambledLine$Listener" "mode" "I") (by decide +kernel)) (fun _ h9 => h9) rfl dX2_hear_20 ?_
    refine lv_if_ne (tgt := 33) hx hb dX2_hear_23 (by decide) (fun c23 => ?_) (fun c23 => ?_)
    · skip
      have k23 : ¬ 0 = 0 := fun zq => c23 ((nI_eq (a := 0) (b := 0) (by omega) (by omega)).mpr zq)
      exact False.elim (by omega)
    · skip
      have k23 : 0 = 0 := (nI_eq (a := 0) (b := 0) (by omega) (by omega)).mp c23
      refine lv_aload_n hx hb dX2_hear_26 rfl (lv_at hl 1 rfl) ?_
      refine lv_iload_n hx hb dX2_hear_27 rfl (lv_at hl 0 rfl) ?_
      refine ca_v (wr := []) (ru_V (As := [.int (nI (mkN x lv))]) (rest := []) ⟨hx, hb, hml, hown, hts⟩ (c_X2_seekLock_yes l D cI cG tt H.size h0 sc rd ib x run on qt lb ear (mkN x lv) (by omega) (by omega) (by omega) (by omega)) (cwV 1 hts gX2_hear_X2_seekLock rfl rfl rfl (by decide +kernel) ⟨by rw [hR]; exact Nat.le_of_ble_eq_true rfl, by rw [hR]; exact Nat.le_of_ble_eq_true rfl⟩) hP hD hE hT hS hA [0, 1] rfl (by decide) (va_recv hK hP (ci := 2) (q0 := 0) rfl rfl) rfl hl.1 rfl (Nat.le_of_ble_eq_true rfl) dX2_hear_28 ⟨by rw [hR]; exact Nat.le_of_ble_eq_true rfl, by rw [hR]; exact Nat.le_of_ble_eq_true rfl⟩) hP hD hS hA [0, 1] [] rfl rfl (by decide) (by decide) (fun u H locs hw hP hD hS => ?_)
      have hP : va_P D vwCl [(h0, .inr (2, [.ref sc, .ref rd, .ref ib, .int (nI 1), .int x, .int (nI (rkN ear (mkN x lv) run)), .int (nI 0), .int (nI 0), .int (nI 0)])), (sc, .inr (5, [.int (nI (rN ear (1 - (mkN x lv))))]))] H := hP
      have hD : va_D A [(h0, .inr (2, [.ref sc, .ref rd, .ref ib, .int (nI 1), .int x, .int (nI (rkN ear (mkN x lv) run)), .int (nI 0), .int (nI 0), .int (nI 0)])), (sc, .inr (5, [.int (nI (rN ear (1 - (mkN x lv))))]))] := hD
      refine lv_iconst (v := nI 0) hx hb dX2_hear_31 rfl ?_
      refine W_q hQ ?_
      exact rt_z () hx hb hr hlocks dX2_hear_32 hS hP hD rfl rfl
  refine lv_icmp_eq (tgt := 12) hx hb dX2_hear_5 (by decide) (fun c5 => ?_) (fun c5 => ?_)
  · skip
    
    refine lv_iconst (v := nI 0) hx hb dX2_hear_12 rfl ?_
    refine lv_to (y := nI (mkN x lv)) (congrArg nI (mkN_0 c5).symm) ?_
    exact L13 () _ _ hP hD hS _ (lv_sub hl [0, 1] rfl)
  · skip
    
    refine lv_iconst (v := nI 1) hx hb dX2_hear_8 rfl ?_
    refine lv_to (y := nI (mkN x lv)) (congrArg nI (mkN_1 c5).symm) ?_
    refine lv_goto (tgt := 13) hx hb dX2_hear_9 (by decide) ?_
    exact L13 () _ _ hP hD hS _ (lv_sub hl [0, 1] rfl)

set_option maxHeartbeats 4000000 in
set_option maxRecDepth 100000 in
theorem c_X2_hear_hunt_lose (l : Launch) (D : va_G) (cI cG : ClassId) (tt : Nat × Nat × Nat) (sz : Nat) (h0 : Nat) (sc : Nat) (rd : Nat) (ib : Nat) (lv : Int32) (rk : Int32) (on : Nat) (qt : Nat) (lb : Nat) (ear : Nat) (ba : Nat) (tgt : Nat) (nb : Int32) (g : Int32) (gb : Int32) (st : Int32) (fa : Int32) (bt : Int32) (x : Int32) (hear : ear < 2048) (hon : on ≤ 10) (hqt : qt < 400) (hq : qtN (onN (plN (mkN x lv) ear) on) qt = 400) : Met l yX2_hear wsX2_hear ({ frames := 6, cells := 0, slots := 0, locals := 122 }) (PC D cI cG tt [.ref h0, .int x] [(h0, .inr (2, [.ref sc, .ref rd, .ref ib, .int (nI 1), .int lv, .int rk, .int (nI on), .int (nI qt), .int (nI lb)])), (sc, .inr (5, [.int (nI ear)])), (rd, .inr (4, [.int (nI tgt), .ref ba, .int nb, .int g, .int gb, .int st, .int fa, .int bt]))] sz) (QI (fun (r : Int32) (u : Unit) => r = nI 0) (fun (u : Unit) => [(h0, .inr (2, [.ref sc, .ref rd, .ref ib, .int (nI 0), .int x, .int (nI 0), .int (nI (onN (plN (mkN x lv) ear) on)), .int (nI (qtN (onN (plN (mkN x lv) ear) on) qt)), .int (nI lb)])), (sc, .inr (5, [.int (nI (rN ear (kN ear)))])), (rd, .inr (4, [.int (nI tgt), .ref ba, .int nb, .int g, .int gb, .int st, .int fa, .int bt]))]) D (va_A [(h0, .inr (2, [.ref sc, .ref rd, .ref ib, .int (nI 1), .int lv, .int rk, .int (nI on), .int (nI qt), .int (nI lb)])), (sc, .inr (5, [.int (nI ear)])), (rd, .inr (4, [.int (nI tgt), .ref ba, .int nb, .int g, .int gb, .int st, .int fa, .int bt]))] sz)) 0 0 (va_A [(h0, .inr (2, [.ref sc, .ref rd, .ref ib, .int (nI 1), .int lv, .int rk, .int (nI on), .int (nI qt), .int (nI lb)])), (sc, .inr (5, [.int (nI ear)])), (rd, .inr (4, [.int (nI tgt), .ref ba, .int nb, .int g, .int gb, .int st, .int fa, .int bt]))] sz) := by
  refine ct_of (y := yX2_hear) (cc := cX2_hear) (maxL := 4) (ret := (some .boolean)) (Qf := QI (fun (r : Int32) (u : Unit) => r = nI 0) (fun (u : Unit) => [(h0, .inr (2, [.ref sc, .ref rd, .ref ib, .int (nI 0), .int x, .int (nI 0), .int (nI (onN (plN (mkN x lv) ear) on)), .int (nI (qtN (onN (plN (mkN x lv) ear) on) qt)), .int (nI lb)])), (sc, .inr (5, [.int (nI (rN ear (kN ear)))])), (rd, .inr (4, [.int (nI tgt), .ref ba, .int nb, .int g, .int gb, .int st, .int fa, .int bt]))]) D) (by decide) rfl ?_
  intro p e s m args below meth c A Q R H locs hR hQ hx hb hml hr hts hown hlocks hin hP hD hE hT hA hS
  have hK := hE.1
  have hl := lv_entry ([.ref h0, .int x]) (n := 4) (Nat.le_of_ble_eq_true rfl)
  rw [lg_entry_eq]
  generalize (lg_sl ([.ref h0, .int x]) ++ List.replicate (4 - (lg_sl ([.ref h0, .int x])).length) Slot.unset).toArray = ls at hl ⊢
  have hl : lv_has ls 4 [(0, .ref h0), (1, .int x)] := hl
  refine lv_iload_n hx hb dX2_hear_0 rfl (lv_at hl 1 rfl) ?_
  refine lv_aload_n hx hb dX2_hear_1 rfl (lv_at hl 0 rfl) ?_
  refine va_get (D := D) (ci := 2) (v := .int lv) (C := RX2) (T := TX2) (N := 9) hx hb hts inX2_hear_X2 hown hK hP 0 rfl rfl 4 (by decide) (hts (.fieldLink RX2 31 "ScrambledLine$Listener" "levelBefore" "I") (by decide +kernel)) (fun _ h9 => h9) rfl dX2_hear_2 ?_
  have L13 : ∀ (_ : Unit), ∀ (H : Heap) (locs : List Loc), va_P D vwCl [(h0, .inr (2, [.ref sc, .ref rd, .ref ib, .int (nI 1), .int lv, .int rk, .int (nI on), .int (nI qt), .int (nI lb)])), (sc, .inr (5, [.int (nI ear)])), (rd, .inr (4, [.int (nI tgt), .ref ba, .int nb, .int g, .int gb, .int st, .int fa, .int bt]))] H → va_D A [(h0, .inr (2, [.ref sc, .ref rd, .ref ib, .int (nI 1), .int lv, .int rk, .int (nI on), .int (nI qt), .int (nI lb)])), (sc, .inr (5, [.int (nI ear)])), (rd, .inr (4, [.int (nI tgt), .ref ba, .int nb, .int g, .int gb, .int st, .int fa, .int bt]))] → va_S A s.heap H locs → ∀ ls : Array Slot, lv_has ls 4 [(0, .ref h0), (1, .int x)] → W p l e R s m args below meth c H locs 0 0 Q (F0 m 13 ls [.int (nI (mkN x lv))]) := by
    intro _  H locs hP hD hS ls hl
    have hmk := mkN_lt x lv
    refine lv_istore_n (lv' := [(2, .int (nI (mkN x lv))), (0, .ref h0), (1, .int x)]) hx hb dX2_hear_13 rfl hl (by decide) rfl (fun ls hl => ?_)
    refine lv_aload_n hx hb dX2_hear_14 rfl (lv_at hl 1 rfl) ?_
    refine lv_iload_n hx hb dX2_hear_15 rfl (lv_at hl 2 rfl) ?_
    refine va_put (D := D) (ci := 2) (v := .int x) (ty := .int) (C := RX2) (T := TX2) (N := 9) hx hb hts inX2_hear_X2 tyX2 tyX2_ok nmX2 hown hK hP hD hS 0 rfl rfl 4 (by decide) (hts (.fieldLink RX2 31 "ScrambledLine$Listener" "levelBefore" "I") (by decide +kernel)) (fun _ h9 => h9) rfl (by decide +kernel) rfl rfl (Nat.le_of_ble_eq_true rfl) dX2_hear_16 (fun H locs hP hD hS => ?_)
    have hP : va_P D vwCl [(h0, .inr (2, [.ref sc, .ref rd, .ref ib, .int (nI 1), .int x, .int rk, .int (nI on), .int (nI qt), .int (nI lb)])), (sc, .inr (5, [.int (nI ear)])), (rd, .inr (4, [.int (nI tgt), .ref ba, .int nb, .int g, .int gb, .int st, .int fa, .int bt]))] H := hP
    have hD : va_D A [(h0, .inr (2, [.ref sc, .ref rd, .ref ib, .int (nI 1), .int x, .int rk, .int (nI on), .int (nI qt), .int (nI lb)])), (sc, .inr (5, [.int (nI ear)])), (rd, .inr (4, [.int (nI tgt), .ref ba, .int nb, .int g, .int gb, .int st, .int fa, .int bt]))] := hD
    refine lv_aload_n hx hb dX2_hear_19 rfl (lv_at hl 1 rfl) ?_
    refine va_get (D := D) (ci := 2) (v := .int (nI 1)) (C := RX2) (T := TX2) (N := 9) hx hb hts inX2_hear_X2 hown hK hP 0 rfl rfl 3 (by decide) (hts (.fieldLink RX2 27 "ScrambledLine$Listener" "mode" "I") (by decide +kernel)) (fun _ h9 => h9) rfl dX2_hear_20 ?_
    refine lv_if_ne (tgt := 33) hx hb dX2_hear_23 (by decide) (fun c23 => ?_) (fun c23 => ?_)
    · skip
      have k23 : ¬ 1 = 0 := fun zq => c23 ((nI_eq (a := 1) (b := 0) (by omega) (by omega)).mpr zq)
      refine lv_aload_n hx hb dX2_hear_33 rfl (lv_at hl 1 rfl) ?_
      refine lv_iload_n hx hb dX2_hear_34 rfl (lv_at hl 0 rfl) ?_
      refine ca_i (wr := []) (ru_V (As := [.int (nI (mkN x lv))]) (rest := []) ⟨hx, hb, hml, hown, hts⟩ (c_X2_follow_hunt_lose l D cI cG tt H.size h0 sc rd ib x rk on qt lb ear ba tgt nb g gb st fa bt (mkN x lv) (by omega) (by omega) (by omega) (by omega) (by omega)) (cwV 1 hts gX2_hear_X2_follow rfl rfl rfl (by decide +kernel) ⟨by rw [hR]; exact Nat.le_of_ble_eq_true rfl, by rw [hR]; exact Nat.le_of_ble_eq_true rfl⟩) hP hD hE hT hS hA [0, 1, 2] rfl (by decide) (va_recv hK hP (ci := 2) (q0 := 0) rfl rfl) rfl hl.1 rfl (Nat.le_of_ble_eq_true rfl) dX2_hear_35 ⟨by rw [hR]; exact Nat.le_of_ble_eq_true rfl, by rw [hR]; exact Nat.le_of_ble_eq_true rfl⟩) hP hD hS hA [0, 1, 2] [] rfl rfl (by decide) (by decide) (fun r35 u H locs hw hP hD hS => ?_)
      obtain rfl := hw
      have hP : va_P D vwCl [(h0, .inr (2, [.ref sc, .ref rd, .ref ib, .int (nI 0), .int x, .int (nI 0), .int (nI (onN (plN (mkN x lv) ear) on)), .int (nI (qtN (onN (plN (mkN x lv) ear) on) qt)), .int (nI lb)])), (sc, .inr (5, [.int (nI (rN ear (kN ear)))])), (rd, .inr (4, [.int (nI tgt), .ref ba, .int nb, .int g, .int gb, .int st, .int fa, .int bt]))] H := hP
      have hD : va_D A [(h0, .inr (2, [.ref sc, .ref rd, .ref ib, .int (nI 0), .int x, .int (nI 0), .int (nI (onN (plN (mkN x lv) ear) on)), .int (nI (qtN (onN (plN (mkN x lv) ear) on) qt)), .int (nI lb)])), (sc, .inr (5, [.int (nI (rN ear (kN ear)))])), (rd, .inr (4, [.int (nI tgt), .ref ba, .int nb, .int g, .int gb, .int st, .int fa, .int bt]))] := hD
      refine lv_istore_n (lv' := [(3, .int (-1)), (2, .int (nI (mkN x lv))), (0, .ref h0), (1, .int x)]) hx hb dX2_hear_38 rfl hl (by decide) rfl (fun ls hl => ?_)
      refine lv_iload_n hx hb dX2_hear_39 rfl (lv_at hl 0 rfl) ?_
      refine lv_iconst (v := (-1)) hx hb dX2_hear_40 rfl ?_
      refine lv_icmp_ne (tgt := 46) hx hb dX2_hear_41 (by decide) (fun c41 => ?_) (fun c41 => ?_)
      · skip
        
        exact absurd rfl c41
      · skip
        
        refine lv_iconst (v := nI 0) hx hb dX2_hear_44 rfl ?_
        refine W_q hQ ?_
        exact rt_z () hx hb hr hlocks dX2_hear_45 hS hP hD rfl rfl
    · skip
      have k23 : 1 = 0 := (nI_eq (a := 1) (b := 0) (by omega) (by omega)).mp c23
      exact False.elim (by omega)
  refine lv_icmp_eq (tgt := 12) hx hb dX2_hear_5 (by decide) (fun c5 => ?_) (fun c5 => ?_)
  · skip
    
    refine lv_iconst (v := nI 0) hx hb dX2_hear_12 rfl ?_
    refine lv_to (y := nI (mkN x lv)) (congrArg nI (mkN_0 c5).symm) ?_
    exact L13 () _ _ hP hD hS _ (lv_sub hl [0, 1] rfl)
  · skip
    
    refine lv_iconst (v := nI 1) hx hb dX2_hear_8 rfl ?_
    refine lv_to (y := nI (mkN x lv)) (congrArg nI (mkN_1 c5).symm) ?_
    refine lv_goto (tgt := 13) hx hb dX2_hear_9 (by decide) ?_
    exact L13 () _ _ hP hD hS _ (lv_sub hl [0, 1] rfl)

set_option maxHeartbeats 4000000 in
set_option maxRecDepth 100000 in
theorem c_X2_hear_hunt_no (l : Launch) (D : va_G) (cI cG : ClassId) (tt : Nat × Nat × Nat) (sz : Nat) (h0 : Nat) (sc : Nat) (rd : Nat) (ib : Nat) (lv : Int32) (rk : Int32) (on : Nat) (qt : Nat) (lb : Nat) (ear : Nat) (ba : Nat) (tgt : Nat) (nb : Int32) (g : Int32) (gb : Int32) (st : Int32) (fa : Int32) (bt : Int32) (x : Int32) (hear : ear < 2048) (hon : on ≤ 10) (hqt : qt < 400) (hq : ¬ qtN (onN (plN (mkN x lv) ear) on) qt = 400) (hlb : lb < 1024) (hh : ¬ (2 * lb + plN (mkN x lv) ear) % 1024 = 785) : Met l yX2_hear wsX2_hear ({ frames := 6, cells := 0, slots := 0, locals := 122 }) (PC D cI cG tt [.ref h0, .int x] [(h0, .inr (2, [.ref sc, .ref rd, .ref ib, .int (nI 1), .int lv, .int rk, .int (nI on), .int (nI qt), .int (nI lb)])), (sc, .inr (5, [.int (nI ear)])), (rd, .inr (4, [.int (nI tgt), .ref ba, .int nb, .int g, .int gb, .int st, .int fa, .int bt]))] sz) (QI (fun (r : Int32) (u : Unit) => r = nI 0) (fun (u : Unit) => [(h0, .inr (2, [.ref sc, .ref rd, .ref ib, .int (nI 1), .int x, .int rk, .int (nI (onN (plN (mkN x lv) ear) on)), .int (nI (qtN (onN (plN (mkN x lv) ear) on) qt)), .int (nI ((2 * lb + plN (mkN x lv) ear) % 1024))])), (sc, .inr (5, [.int (nI (rN ear (kN ear)))])), (rd, .inr (4, [.int (nI tgt), .ref ba, .int nb, .int g, .int gb, .int st, .int fa, .int bt]))]) D (va_A [(h0, .inr (2, [.ref sc, .ref rd, .ref ib, .int (nI 1), .int lv, .int rk, .int (nI on), .int (nI qt), .int (nI lb)])), (sc, .inr (5, [.int (nI ear)])), (rd, .inr (4, [.int (nI tgt), .ref ba, .int nb, .int g, .int gb, .int st, .int fa, .int bt]))] sz)) 0 0 (va_A [(h0, .inr (2, [.ref sc, .ref rd, .ref ib, .int (nI 1), .int lv, .int rk, .int (nI on), .int (nI qt), .int (nI lb)])), (sc, .inr (5, [.int (nI ear)])), (rd, .inr (4, [.int (nI tgt), .ref ba, .int nb, .int g, .int gb, .int st, .int fa, .int bt]))] sz) := by
  refine ct_of (y := yX2_hear) (cc := cX2_hear) (maxL := 4) (ret := (some .boolean)) (Qf := QI (fun (r : Int32) (u : Unit) => r = nI 0) (fun (u : Unit) => [(h0, .inr (2, [.ref sc, .ref rd, .ref ib, .int (nI 1), .int x, .int rk, .int (nI (onN (plN (mkN x lv) ear) on)), .int (nI (qtN (onN (plN (mkN x lv) ear) on) qt)), .int (nI ((2 * lb + plN (mkN x lv) ear) % 1024))])), (sc, .inr (5, [.int (nI (rN ear (kN ear)))])), (rd, .inr (4, [.int (nI tgt), .ref ba, .int nb, .int g, .int gb, .int st, .int fa, .int bt]))]) D) (by decide) rfl ?_
  intro p e s m args below meth c A Q R H locs hR hQ hx hb hml hr hts hown hlocks hin hP hD hE hT hA hS
  have hK := hE.1
  have hl := lv_entry ([.ref h0, .int x]) (n := 4) (Nat.le_of_ble_eq_true rfl)
  rw [lg_entry_eq]
  generalize (lg_sl ([.ref h0, .int x]) ++ List.replicate (4 - (lg_sl ([.ref h0, .int x])).length) Slot.unset).toArray = ls at hl ⊢
  have hl : lv_has ls 4 [(0, .ref h0), (1, .int x)] := hl
  refine lv_iload_n hx hb dX2_hear_0 rfl (lv_at hl 1 rfl) ?_
  refine lv_aload_n hx hb dX2_hear_1 rfl (lv_at hl 0 rfl) ?_
  refine va_get (D := D) (ci := 2) (v := .int lv) (C := RX2) (T := TX2) (N := 9) hx hb hts inX2_hear_X2 hown hK hP 0 rfl rfl 4 (by decide) (hts (.fieldLink RX2 31 "ScrambledLine$Listener" "levelBefore" "I") (by decide +kernel)) (fun _ h9 => h9) rfl dX2_hear_2 ?_
  have L13 : ∀ (_ : Unit), ∀ (H : Heap) (locs : List Loc), va_P D vwCl [(h0, .inr (2, [.ref sc, .ref rd, .ref ib, .int (nI 1), .int lv, .int rk, .int (nI on), .int (nI qt), .int (nI lb)])), (sc, .inr (5, [.int (nI ear)])), (rd, .inr (4, [.int (nI tgt), .ref ba, .int nb, .int g, .int gb, .int st, .int fa, .int bt]))] H → va_D A [(h0, .inr (2, [.ref sc, .ref rd, .ref ib, .int (nI 1), .int lv, .int rk, .int (nI on), .int (nI qt), .int (nI lb)])), (sc, .inr (5, [.int (nI ear)])), (rd, .inr (4, [.int (nI tgt), .ref ba, .int nb, .int g, .int gb, .int st, .int fa, .int bt]))] → va_S A s.heap H locs → ∀ ls : Array Slot, lv_has ls 4 [(0, .ref h0), (1, .int x)] → W p l e R s m args below meth c H locs 0 0 Q (F0 m 13 ls [.int (nI (mkN x lv))]) := by
    intro _  H locs hP hD hS ls hl
    have hmk := mkN_lt x lv
    refine lv_istore_n (lv' := [(2, .int (nI (mkN x lv))), (0, .ref h0), (1, .int x)]) hx hb dX2_hear_13 rfl hl (by decide) rfl (fun ls hl => ?_)
    refine lv_aload_n hx hb dX2_hear_14 rfl (lv_at hl 1 rfl) ?_
    refine lv_iload_n hx hb dX2_hear_15 rfl (lv_at hl 2 rfl) ?_
    refine va_put (D := D) (ci := 2) (v := .int x) (ty := .int) (C := RX2) (T := TX2) (N := 9) hx hb hts inX2_hear_X2 tyX2 tyX2_ok nmX2 hown hK hP hD hS 0 rfl rfl 4 (by decide) (hts (.fieldLink RX2 31 "ScrambledLine$Listener" "levelBefore" "I") (by decide +kernel)) (fun _ h9 => h9) rfl (by decide +kernel) rfl rfl (Nat.le_of_ble_eq_true rfl) dX2_hear_16 (fun H locs hP hD hS => ?_)
    have hP : va_P D vwCl [(h0, .inr (2, [.ref sc, .ref rd, .ref ib, .int (nI 1), .int x, .int rk, .int (nI on), .int (nI qt), .int (nI lb)])), (sc, .inr (5, [.int (nI ear)])), (rd, .inr (4, [.int (nI tgt), .ref ba, .int nb, .int g, .int gb, .int st, .int fa, .int bt]))] H := hP
    have hD : va_D A [(h0, .inr (2, [.ref sc, .ref rd, .ref ib, .int (nI 1), .int x, .int rk, .int (nI on), .int (nI qt), .int (nI lb)])), (sc, .inr (5, [.int (nI ear)])), (rd, .inr (4, [.int (nI tgt), .ref ba, .int nb, .int g, .int gb, .int st, .int fa, .int bt]))] := hD
    refine lv_aload_n hx hb dX2_hear_19 rfl (lv_at hl 1 rfl) ?_
    refine va_get (D := D) (ci := 2) (v := .int (nI 1)) (C := RX2) (T := TX2) (N := 9) hx hb hts inX2_hear_X2 hown hK hP 0 rfl rfl 3 (by decide) (hts (.fieldLink RX2 27 "ScrambledLine$Listener" "mode" "I") (by decide +kernel)) (fun _ h9 => h9) rfl dX2_hear_20 ?_
    refine lv_if_ne (tgt := 33) hx hb dX2_hear_23 (by decide) (fun c23 => ?_) (fun c23 => ?_)
    · skip
      have k23 : ¬ 1 = 0 := fun zq => c23 ((nI_eq (a := 1) (b := 0) (by omega) (by omega)).mpr zq)
      refine lv_aload_n hx hb dX2_hear_33 rfl (lv_at hl 1 rfl) ?_
      refine lv_iload_n hx hb dX2_hear_34 rfl (lv_at hl 0 rfl) ?_
      refine ca_i (wr := []) (ru_V (As := [.int (nI (mkN x lv))]) (rest := []) ⟨hx, hb, hml, hown, hts⟩ (c_X2_follow_hunt_no l D cI cG tt H.size h0 sc rd ib x rk on qt lb ear ba tgt nb g gb st fa bt (mkN x lv) (by omega) (by omega) (by omega) (by omega) (by omega) (by omega) (by omega)) (cwV 1 hts gX2_hear_X2_follow rfl rfl rfl (by decide +kernel) ⟨by rw [hR]; exact Nat.le_of_ble_eq_true rfl, by rw [hR]; exact Nat.le_of_ble_eq_true rfl⟩) hP hD hE hT hS hA [0, 1, 2] rfl (by decide) (va_recv hK hP (ci := 2) (q0 := 0) rfl rfl) rfl hl.1 rfl (Nat.le_of_ble_eq_true rfl) dX2_hear_35 ⟨by rw [hR]; exact Nat.le_of_ble_eq_true rfl, by rw [hR]; exact Nat.le_of_ble_eq_true rfl⟩) hP hD hS hA [0, 1, 2] [] rfl rfl (by decide) (by decide) (fun r35 u H locs hw hP hD hS => ?_)
      obtain rfl := hw
      have hP : va_P D vwCl [(h0, .inr (2, [.ref sc, .ref rd, .ref ib, .int (nI 1), .int x, .int rk, .int (nI (onN (plN (mkN x lv) ear) on)), .int (nI (qtN (onN (plN (mkN x lv) ear) on) qt)), .int (nI ((2 * lb + plN (mkN x lv) ear) % 1024))])), (sc, .inr (5, [.int (nI (rN ear (kN ear)))])), (rd, .inr (4, [.int (nI tgt), .ref ba, .int nb, .int g, .int gb, .int st, .int fa, .int bt]))] H := hP
      have hD : va_D A [(h0, .inr (2, [.ref sc, .ref rd, .ref ib, .int (nI 1), .int x, .int rk, .int (nI (onN (plN (mkN x lv) ear) on)), .int (nI (qtN (onN (plN (mkN x lv) ear) on) qt)), .int (nI ((2 * lb + plN (mkN x lv) ear) % 1024))])), (sc, .inr (5, [.int (nI (rN ear (kN ear)))])), (rd, .inr (4, [.int (nI tgt), .ref ba, .int nb, .int g, .int gb, .int st, .int fa, .int bt]))] := hD
      refine lv_istore_n (lv' := [(3, .int (-1)), (2, .int (nI (mkN x lv))), (0, .ref h0), (1, .int x)]) hx hb dX2_hear_38 rfl hl (by decide) rfl (fun ls hl => ?_)
      refine lv_iload_n hx hb dX2_hear_39 rfl (lv_at hl 0 rfl) ?_
      refine lv_iconst (v := (-1)) hx hb dX2_hear_40 rfl ?_
      refine lv_icmp_ne (tgt := 46) hx hb dX2_hear_41 (by decide) (fun c41 => ?_) (fun c41 => ?_)
      · skip
        
        exact absurd rfl c41
      · skip
        
        refine lv_iconst (v := nI 0) hx hb dX2_hear_44 rfl ?_
        refine W_q hQ ?_
        exact rt_z () hx hb hr hlocks dX2_hear_45 hS hP hD rfl rfl
    · skip
      have k23 : 1 = 0 := (nI_eq (a := 1) (b := 0) (by omega) (by omega)).mp c23
      exact False.elim (by omega)
  refine lv_icmp_eq (tgt := 12) hx hb dX2_hear_5 (by decide) (fun c5 => ?_) (fun c5 => ?_)
  · skip
    
    refine lv_iconst (v := nI 0) hx hb dX2_hear_12 rfl ?_
    refine lv_to (y := nI (mkN x lv)) (congrArg nI (mkN_0 c5).symm) ?_
    exact L13 () _ _ hP hD hS _ (lv_sub hl [0, 1] rfl)
  · skip
    
    refine lv_iconst (v := nI 1) hx hb dX2_hear_8 rfl ?_
    refine lv_to (y := nI (mkN x lv)) (congrArg nI (mkN_1 c5).symm) ?_
    refine lv_goto (tgt := 13) hx hb dX2_hear_9 (by decide) ?_
    exact L13 () _ _ hP hD hS _ (lv_sub hl [0, 1] rfl)

set_option maxHeartbeats 4000000 in
set_option maxRecDepth 100000 in
theorem c_X2_hear_hunt_yes (l : Launch) (D : va_G) (cI cG : ClassId) (tt : Nat × Nat × Nat) (sz : Nat) (h0 : Nat) (sc : Nat) (rd : Nat) (ib : Nat) (lv : Int32) (rk : Int32) (on : Nat) (qt : Nat) (lb : Nat) (ear : Nat) (ba : Nat) (tgt : Nat) (nb : Int32) (g : Int32) (gb : Int32) (st : Int32) (fa : Int32) (bt : Int32) (x : Int32) (hear : ear < 2048) (hon : on ≤ 10) (hqt : qt < 400) (hq : ¬ qtN (onN (plN (mkN x lv) ear) on) qt = 400) (hlb : lb < 1024) (hh : (2 * lb + plN (mkN x lv) ear) % 1024 = 785) : Met l yX2_hear wsX2_hear ({ frames := 6, cells := 0, slots := 0, locals := 122 }) (PC D cI cG tt [.ref h0, .int x] [(h0, .inr (2, [.ref sc, .ref rd, .ref ib, .int (nI 1), .int lv, .int rk, .int (nI on), .int (nI qt), .int (nI lb)])), (sc, .inr (5, [.int (nI ear)])), (rd, .inr (4, [.int (nI tgt), .ref ba, .int nb, .int g, .int gb, .int st, .int fa, .int bt]))] sz) (QI (fun (r : Int32) (u : Unit) => r = nI 0) (fun (u : Unit) => [(h0, .inr (2, [.ref sc, .ref rd, .ref ib, .int (nI 2), .int x, .int rk, .int (nI (onN (plN (mkN x lv) ear) on)), .int (nI (qtN (onN (plN (mkN x lv) ear) on) qt)), .int (nI ((2 * lb + plN (mkN x lv) ear) % 1024))])), (sc, .inr (5, [.int (nI (rN ear (kN ear)))])), (rd, .inr (4, [.int (nI tgt), .ref ba, .int (nI 0), .int (nI 0), .int (nI 0), .int (nI 0), .int (nI 0), .int (nI 0)]))]) D (va_A [(h0, .inr (2, [.ref sc, .ref rd, .ref ib, .int (nI 1), .int lv, .int rk, .int (nI on), .int (nI qt), .int (nI lb)])), (sc, .inr (5, [.int (nI ear)])), (rd, .inr (4, [.int (nI tgt), .ref ba, .int nb, .int g, .int gb, .int st, .int fa, .int bt]))] sz)) 0 0 (va_A [(h0, .inr (2, [.ref sc, .ref rd, .ref ib, .int (nI 1), .int lv, .int rk, .int (nI on), .int (nI qt), .int (nI lb)])), (sc, .inr (5, [.int (nI ear)])), (rd, .inr (4, [.int (nI tgt), .ref ba, .int nb, .int g, .int gb, .int st, .int fa, .int bt]))] sz) := by
  refine ct_of (y := yX2_hear) (cc := cX2_hear) (maxL := 4) (ret := (some .boolean)) (Qf := QI (fun (r : Int32) (u : Unit) => r = nI 0) (fun (u : Unit) => [(h0, .inr (2, [.ref sc, .ref rd, .ref ib, .int (nI 2), .int x, .int rk, .int (nI (onN (plN (mkN x lv) ear) on)), .int (nI (qtN (onN (plN (mkN x lv) ear) on) qt)), .int (nI ((2 * lb + plN (mkN x lv) ear) % 1024))])), (sc, .inr (5, [.int (nI (rN ear (kN ear)))])), (rd, .inr (4, [.int (nI tgt), .ref ba, .int (nI 0), .int (nI 0), .int (nI 0), .int (nI 0), .int (nI 0), .int (nI 0)]))]) D) (by decide) rfl ?_
  intro p e s m args below meth c A Q R H locs hR hQ hx hb hml hr hts hown hlocks hin hP hD hE hT hA hS
  have hK := hE.1
  have hl := lv_entry ([.ref h0, .int x]) (n := 4) (Nat.le_of_ble_eq_true rfl)
  rw [lg_entry_eq]
  generalize (lg_sl ([.ref h0, .int x]) ++ List.replicate (4 - (lg_sl ([.ref h0, .int x])).length) Slot.unset).toArray = ls at hl ⊢
  have hl : lv_has ls 4 [(0, .ref h0), (1, .int x)] := hl
  refine lv_iload_n hx hb dX2_hear_0 rfl (lv_at hl 1 rfl) ?_
  refine lv_aload_n hx hb dX2_hear_1 rfl (lv_at hl 0 rfl) ?_
  refine va_get (D := D) (ci := 2) (v := .int lv) (C := RX2) (T := TX2) (N := 9) hx hb hts inX2_hear_X2 hown hK hP 0 rfl rfl 4 (by decide) (hts (.fieldLink RX2 31 "ScrambledLine$Listener" "levelBefore" "I") (by decide +kernel)) (fun _ h9 => h9) rfl dX2_hear_2 ?_
  have L13 : ∀ (_ : Unit), ∀ (H : Heap) (locs : List Loc), va_P D vwCl [(h0, .inr (2, [.ref sc, .ref rd, .ref ib, .int (nI 1), .int lv, .int rk, .int (nI on), .int (nI qt), .int (nI lb)])), (sc, .inr (5, [.int (nI ear)])), (rd, .inr (4, [.int (nI tgt), .ref ba, .int nb, .int g, .int gb, .int st, .int fa, .int bt]))] H → va_D A [(h0, .inr (2, [.ref sc, .ref rd, .ref ib, .int (nI 1), .int lv, .int rk, .int (nI on), .int (nI qt), .int (nI lb)])), (sc, .inr (5, [.int (nI ear)])), (rd, .inr (4, [.int (nI tgt), .ref ba, .int nb, .int g, .int gb, .int st, .int fa, .int bt]))] → va_S A s.heap H locs → ∀ ls : Array Slot, lv_has ls 4 [(0, .ref h0), (1, .int x)] → W p l e R s m args below meth c H locs 0 0 Q (F0 m 13 ls [.int (nI (mkN x lv))]) := by
    intro _  H locs hP hD hS ls hl
    have hmk := mkN_lt x lv
    refine lv_istore_n (lv' := [(2, .int (nI (mkN x lv))), (0, .ref h0), (1, .int x)]) hx hb dX2_hear_13 rfl hl (by decide) rfl (fun ls hl => ?_)
    refine lv_aload_n hx hb dX2_hear_14 rfl (lv_at hl 1 rfl) ?_
    refine lv_iload_n hx hb dX2_hear_15 rfl (lv_at hl 2 rfl) ?_
    refine va_put (D := D) (ci := 2) (v := .int x) (ty := .int) (C := RX2) (T := TX2) (N := 9) hx hb hts inX2_hear_X2 tyX2 tyX2_ok nmX2 hown hK hP hD hS 0 rfl rfl 4 (by decide) (hts (.fieldLink RX2 31 "ScrambledLine$Listener" "levelBefore" "I") (by decide +kernel)) (fun _ h9 => h9) rfl (by decide +kernel) rfl rfl (Nat.le_of_ble_eq_true rfl) dX2_hear_16 (fun H locs hP hD hS => ?_)
    have hP : va_P D vwCl [(h0, .inr (2, [.ref sc, .ref rd, .ref ib, .int (nI 1), .int x, .int rk, .int (nI on), .int (nI qt), .int (nI lb)])), (sc, .inr (5, [.int (nI ear)])), (rd, .inr (4, [.int (nI tgt), .ref ba, .int nb, .int g, .int gb, .int st, .int fa, .int bt]))] H := hP
    have hD : va_D A [(h0, .inr (2, [.ref sc, .ref rd, .ref ib, .int (nI 1), .int x, .int rk, .int (nI on), .int (nI qt), .int (nI lb)])), (sc, .inr (5, [.int (nI ear)])), (rd, .inr (4, [.int (nI tgt), .ref ba, .int nb, .int g, .int gb, .int st, .int fa, .int bt]))] := hD
    refine lv_aload_n hx hb dX2_hear_19 rfl (lv_at hl 1 rfl) ?_
    refine va_get (D := D) (ci := 2) (v := .int (nI 1)) (C := RX2) (T := TX2) (N := 9) hx hb hts inX2_hear_X2 hown hK hP 0 rfl rfl 3 (by decide) (hts (.fieldLink RX2 27 "ScrambledLine$Listener" "mode" "I") (by decide +kernel)) (fun _ h9 => h9) rfl dX2_hear_20 ?_
    refine lv_if_ne (tgt := 33) hx hb dX2_hear_23 (by decide) (fun c23 => ?_) (fun c23 => ?_)
    · skip
      have k23 : ¬ 1 = 0 := fun zq => c23 ((nI_eq (a := 1) (b := 0) (by omega) (by omega)).mpr zq)
      refine lv_aload_n hx hb dX2_hear_33 rfl (lv_at hl 1 rfl) ?_
      refine lv_iload_n hx hb dX2_hear_34 rfl (lv_at hl 0 rfl) ?_
      refine ca_i (wr := []) (ru_V (As := [.int (nI (mkN x lv))]) (rest := []) ⟨hx, hb, hml, hown, hts⟩ (c_X2_follow_hunt_yes l D cI cG tt H.size h0 sc rd ib x rk on qt lb ear ba tgt nb g gb st fa bt (mkN x lv) (by omega) (by omega) (by omega) (by omega) (by omega) (by omega) (by omega)) (cwV 1 hts gX2_hear_X2_follow rfl rfl rfl (by decide +kernel) ⟨by rw [hR]; exact Nat.le_of_ble_eq_true rfl, by rw [hR]; exact Nat.le_of_ble_eq_true rfl⟩) hP hD hE hT hS hA [0, 1, 2] rfl (by decide) (va_recv hK hP (ci := 2) (q0 := 0) rfl rfl) rfl hl.1 rfl (Nat.le_of_ble_eq_true rfl) dX2_hear_35 ⟨by rw [hR]; exact Nat.le_of_ble_eq_true rfl, by rw [hR]; exact Nat.le_of_ble_eq_true rfl⟩) hP hD hS hA [0, 1, 2] [] rfl rfl (by decide) (by decide) (fun r35 u H locs hw hP hD hS => ?_)
      obtain rfl := hw
      have hP : va_P D vwCl [(h0, .inr (2, [.ref sc, .ref rd, .ref ib, .int (nI 2), .int x, .int rk, .int (nI (onN (plN (mkN x lv) ear) on)), .int (nI (qtN (onN (plN (mkN x lv) ear) on) qt)), .int (nI ((2 * lb + plN (mkN x lv) ear) % 1024))])), (sc, .inr (5, [.int (nI (rN ear (kN ear)))])), (rd, .inr (4, [.int (nI tgt), .ref ba, .int (nI 0), .int (nI 0), .int (nI 0), .int (nI 0), .int (nI 0), .int (nI 0)]))] H := hP
      have hD : va_D A [(h0, .inr (2, [.ref sc, .ref rd, .ref ib, .int (nI 2), .int x, .int rk, .int (nI (onN (plN (mkN x lv) ear) on)), .int (nI (qtN (onN (plN (mkN x lv) ear) on) qt)), .int (nI ((2 * lb + plN (mkN x lv) ear) % 1024))])), (sc, .inr (5, [.int (nI (rN ear (kN ear)))])), (rd, .inr (4, [.int (nI tgt), .ref ba, .int (nI 0), .int (nI 0), .int (nI 0), .int (nI 0), .int (nI 0), .int (nI 0)]))] := hD
      refine lv_istore_n (lv' := [(3, .int (-1)), (2, .int (nI (mkN x lv))), (0, .ref h0), (1, .int x)]) hx hb dX2_hear_38 rfl hl (by decide) rfl (fun ls hl => ?_)
      refine lv_iload_n hx hb dX2_hear_39 rfl (lv_at hl 0 rfl) ?_
      refine lv_iconst (v := (-1)) hx hb dX2_hear_40 rfl ?_
      refine lv_icmp_ne (tgt := 46) hx hb dX2_hear_41 (by decide) (fun c41 => ?_) (fun c41 => ?_)
      · skip
        
        exact absurd rfl c41
      · skip
        
        refine lv_iconst (v := nI 0) hx hb dX2_hear_44 rfl ?_
        refine W_q hQ ?_
        exact rt_z () hx hb hr hlocks dX2_hear_45 hS hP hD rfl rfl
    · skip
      have k23 : 1 = 0 := (nI_eq (a := 1) (b := 0) (by omega) (by omega)).mp c23
      exact False.elim (by omega)
  refine lv_icmp_eq (tgt := 12) hx hb dX2_hear_5 (by decide) (fun c5 => ?_) (fun c5 => ?_)
  · skip
    
    refine lv_iconst (v := nI 0) hx hb dX2_hear_12 rfl ?_
    refine lv_to (y := nI (mkN x lv)) (congrArg nI (mkN_0 c5).symm) ?_
    exact L13 () _ _ hP hD hS _ (lv_sub hl [0, 1] rfl)
  · skip
    
    refine lv_iconst (v := nI 1) hx hb dX2_hear_8 rfl ?_
    refine lv_to (y := nI (mkN x lv)) (congrArg nI (mkN_1 c5).symm) ?_
    refine lv_goto (tgt := 13) hx hb dX2_hear_9 (by decide) ?_
    exact L13 () _ _ hP hD hS _ (lv_sub hl [0, 1] rfl)

set_option maxHeartbeats 4000000 in
set_option maxRecDepth 100000 in
theorem c_X2_hear_read_in (l : Launch) (D : va_G) (cI cG : ClassId) (tt : Nat × Nat × Nat) (sz : Nat) (h0 : Nat) (sc : Nat) (rd : Nat) (ib : Nat) (lv : Int32) (rk : Int32) (on : Nat) (qt : Nat) (lb : Int32) (ear : Nat) (ba : Nat) (tgt : Nat) (nb : Nat) (g : Nat) (gb : Nat) (st : Bool) (fa : Bool) (bt : Bool) (bf : Nat → Int32) (nf : Nat → Nat) (x : Int32) (hear : ear < 2048) (hon : on ≤ 10) (hqt : qt < 400) (hq : ¬ qtN (onN (plN (mkN x lv) ear) on) qt = 400) (hg : g < 32) (hgb : gb < 4) : Met l yX2_hear wsX2_hear ({ frames := 6, cells := 0, slots := 0, locals := 122 }) (PC D cI cG tt [.ref h0, .int x] [(h0, .inr (2, [.ref sc, .ref rd, .ref ib, .int (nI 2), .int lv, .int rk, .int (nI on), .int (nI qt), .int lb])), (sc, .inr (5, [.int (nI ear)])), (rd, .inr (4, [.int (nI tgt), .ref ba, .int (nI nb), .int (nI g), .int (nI gb), .int (bI st), .int (bI fa), .int (bI bt)])), (ba, .inl (cI, 40, .inl bf))] sz) (QI (fun (r : Int32) (u : Unit) => r = nI 0) (fun (u : Unit) => [(h0, .inr (2, [.ref sc, .ref rd, .ref ib, .int (nI 2), .int x, .int rk, .int (nI (onN (plN (mkN x lv) ear) on)), .int (nI (qtN (onN (plN (mkN x lv) ear) on) qt)), .int lb])), (sc, .inr (5, [.int (nI (rN ear (kN ear)))])), (rd, .inr (4, [.int (nI tgt), .ref ba, .int (nI nb), .int (nI (2 * g + plN (mkN x lv) ear)), .int (nI (gb + 1)), .int (bI st), .int (bI fa), .int (bI bt)])), (ba, .inl (cI, 40, .inl bf))]) D (va_A [(h0, .inr (2, [.ref sc, .ref rd, .ref ib, .int (nI 2), .int lv, .int rk, .int (nI on), .int (nI qt), .int lb])), (sc, .inr (5, [.int (nI ear)])), (rd, .inr (4, [.int (nI tgt), .ref ba, .int (nI nb), .int (nI g), .int (nI gb), .int (bI st), .int (bI fa), .int (bI bt)])), (ba, .inl (cI, 40, .inl bf))] sz)) 0 0 (va_A [(h0, .inr (2, [.ref sc, .ref rd, .ref ib, .int (nI 2), .int lv, .int rk, .int (nI on), .int (nI qt), .int lb])), (sc, .inr (5, [.int (nI ear)])), (rd, .inr (4, [.int (nI tgt), .ref ba, .int (nI nb), .int (nI g), .int (nI gb), .int (bI st), .int (bI fa), .int (bI bt)])), (ba, .inl (cI, 40, .inl bf))] sz) := by
  refine ct_of (y := yX2_hear) (cc := cX2_hear) (maxL := 4) (ret := (some .boolean)) (Qf := QI (fun (r : Int32) (u : Unit) => r = nI 0) (fun (u : Unit) => [(h0, .inr (2, [.ref sc, .ref rd, .ref ib, .int (nI 2), .int x, .int rk, .int (nI (onN (plN (mkN x lv) ear) on)), .int (nI (qtN (onN (plN (mkN x lv) ear) on) qt)), .int lb])), (sc, .inr (5, [.int (nI (rN ear (kN ear)))])), (rd, .inr (4, [.int (nI tgt), .ref ba, .int (nI nb), .int (nI (2 * g + plN (mkN x lv) ear)), .int (nI (gb + 1)), .int (bI st), .int (bI fa), .int (bI bt)])), (ba, .inl (cI, 40, .inl bf))]) D) (by decide) rfl ?_
  intro p e s m args below meth c A Q R H locs hR hQ hx hb hml hr hts hown hlocks hin hP hD hE hT hA hS
  have hK := hE.1
  have hl := lv_entry ([.ref h0, .int x]) (n := 4) (Nat.le_of_ble_eq_true rfl)
  rw [lg_entry_eq]
  generalize (lg_sl ([.ref h0, .int x]) ++ List.replicate (4 - (lg_sl ([.ref h0, .int x])).length) Slot.unset).toArray = ls at hl ⊢
  have hl : lv_has ls 4 [(0, .ref h0), (1, .int x)] := hl
  refine lv_iload_n hx hb dX2_hear_0 rfl (lv_at hl 1 rfl) ?_
  refine lv_aload_n hx hb dX2_hear_1 rfl (lv_at hl 0 rfl) ?_
  refine va_get (D := D) (ci := 2) (v := .int lv) (C := RX2) (T := TX2) (N := 9) hx hb hts inX2_hear_X2 hown hK hP 0 rfl rfl 4 (by decide) (hts (.fieldLink RX2 31 "ScrambledLine$Listener" "levelBefore" "I") (by decide +kernel)) (fun _ h9 => h9) rfl dX2_hear_2 ?_
  have L13 : ∀ (_ : Unit), ∀ (H : Heap) (locs : List Loc), va_P D vwCl [(h0, .inr (2, [.ref sc, .ref rd, .ref ib, .int (nI 2), .int lv, .int rk, .int (nI on), .int (nI qt), .int lb])), (sc, .inr (5, [.int (nI ear)])), (rd, .inr (4, [.int (nI tgt), .ref ba, .int (nI nb), .int (nI g), .int (nI gb), .int (bI st), .int (bI fa), .int (bI bt)])), (ba, .inl (cI, 40, .inl bf))] H → va_D A [(h0, .inr (2, [.ref sc, .ref rd, .ref ib, .int (nI 2), .int lv, .int rk, .int (nI on), .int (nI qt), .int lb])), (sc, .inr (5, [.int (nI ear)])), (rd, .inr (4, [.int (nI tgt), .ref ba, .int (nI nb), .int (nI g), .int (nI gb), .int (bI st), .int (bI fa), .int (bI bt)])), (ba, .inl (cI, 40, .inl bf))] → va_S A s.heap H locs → ∀ ls : Array Slot, lv_has ls 4 [(0, .ref h0), (1, .int x)] → W p l e R s m args below meth c H locs 0 0 Q (F0 m 13 ls [.int (nI (mkN x lv))]) := by
    intro _  H locs hP hD hS ls hl
    have hmk := mkN_lt x lv
    refine lv_istore_n (lv' := [(2, .int (nI (mkN x lv))), (0, .ref h0), (1, .int x)]) hx hb dX2_hear_13 rfl hl (by decide) rfl (fun ls hl => ?_)
    refine lv_aload_n hx hb dX2_hear_14 rfl (lv_at hl 1 rfl) ?_
    refine lv_iload_n hx hb dX2_hear_15 rfl (lv_at hl 2 rfl) ?_
    refine va_put (D := D) (ci := 2) (v := .int x) (ty := .int) (C := RX2) (T := TX2) (N := 9) hx hb hts inX2_hear_X2 tyX2 tyX2_ok nmX2 hown hK hP hD hS 0 rfl rfl 4 (by decide) (hts (.fieldLink RX2 31 "ScrambledLine$Listener" "levelBefore" "I") (by decide +kernel)) (fun _ h9 => h9) rfl (by decide +kernel) rfl rfl (Nat.le_of_ble_eq_true rfl) dX2_hear_16 (fun H locs hP hD hS => ?_)
    have hP : va_P D vwCl [(h0, .inr (2, [.ref sc, .ref rd, .ref ib, .int (nI 2), .int x, .int rk, .int (nI on), .int (nI qt), .int lb])), (sc, .inr (5, [.int (nI ear)])), (rd, .inr (4, [.int (nI tgt), .ref ba, .int (nI nb), .int (nI g), .int (nI gb), .int (bI st), .int (bI fa), .int (bI bt)])), (ba, .inl (cI, 40, .inl bf))] H := hP
    have hD : va_D A [(h0, .inr (2, [.ref sc, .ref rd, .ref ib, .int (nI 2), .int x, .int rk, .int (nI on), .int (nI qt), .int lb])), (sc, .inr (5, [.int (nI ear)])), (rd, .inr (4, [.int (nI tgt), .ref ba, .int (nI nb), .int (nI g), .int (nI gb), .int (bI st), .int (bI fa), .int (bI bt)])), (ba, .inl (cI, 40, .inl bf))] := hD
    refine lv_aload_n hx hb dX2_hear_19 rfl (lv_at hl 1 rfl) ?_
    refine va_get (D := D) (ci := 2) (v := .int (nI 2)) (C := RX2) (T := TX2) (N := 9) hx hb hts inX2_hear_X2 hown hK hP 0 rfl rfl 3 (by decide) (hts (.fieldLink RX2 27 "ScrambledLine$Listener" "mode" "I") (by decide +kernel)) (fun _ h9 => h9) rfl dX2_hear_20 ?_
    refine lv_if_ne (tgt := 33) hx hb dX2_hear_23 (by decide) (fun c23 => ?_) (fun c23 => ?_)
    · skip
      have k23 : ¬ 2 = 0 := fun zq => c23 ((nI_eq (a := 2) (b := 0) (by omega) (by omega)).mpr zq)
      refine lv_aload_n hx hb dX2_hear_33 rfl (lv_at hl 1 rfl) ?_
      refine lv_iload_n hx hb dX2_hear_34 rfl (lv_at hl 0 rfl) ?_
      refine ca_i (wr := []) (ru_V (As := [.int (nI (mkN x lv))]) (rest := []) ⟨hx, hb, hml, hown, hts⟩ (c_X2_follow_read_in l D cI cG tt H.size h0 sc rd ib x rk on qt lb ear ba tgt nb g gb st fa bt bf nf (mkN x lv) (by omega) (by omega) (by omega) (by omega) (by omega) (by omega) (by omega)) (cwV 1 hts gX2_hear_X2_follow rfl rfl rfl (by decide +kernel) ⟨by rw [hR]; exact Nat.le_of_ble_eq_true rfl, by rw [hR]; exact Nat.le_of_ble_eq_true rfl⟩) hP hD hE hT hS hA [0, 1, 2, 3] rfl (by decide) (va_recv hK hP (ci := 2) (q0 := 0) rfl rfl) rfl hl.1 rfl (Nat.le_of_ble_eq_true rfl) dX2_hear_35 ⟨by rw [hR]; exact Nat.le_of_ble_eq_true rfl, by rw [hR]; exact Nat.le_of_ble_eq_true rfl⟩) hP hD hS hA [0, 1, 2, 3] [] rfl rfl (by decide) (by decide) (fun r35 u H locs hw hP hD hS => ?_)
      obtain rfl := hw
      have hP : va_P D vwCl [(h0, .inr (2, [.ref sc, .ref rd, .ref ib, .int (nI 2), .int x, .int rk, .int (nI (onN (plN (mkN x lv) ear) on)), .int (nI (qtN (onN (plN (mkN x lv) ear) on) qt)), .int lb])), (sc, .inr (5, [.int (nI (rN ear (kN ear)))])), (rd, .inr (4, [.int (nI tgt), .ref ba, .int (nI nb), .int (nI (2 * g + plN (mkN x lv) ear)), .int (nI (gb + 1)), .int (bI st), .int (bI fa), .int (bI bt)])), (ba, .inl (cI, 40, .inl bf))] H := hP
      have hD : va_D A [(h0, .inr (2, [.ref sc, .ref rd, .ref ib, .int (nI 2), .int x, .int rk, .int (nI (onN (plN (mkN x lv) ear) on)), .int (nI (qtN (onN (plN (mkN x lv) ear) on) qt)), .int lb])), (sc, .inr (5, [.int (nI (rN ear (kN ear)))])), (rd, .inr (4, [.int (nI tgt), .ref ba, .int (nI nb), .int (nI (2 * g + plN (mkN x lv) ear)), .int (nI (gb + 1)), .int (bI st), .int (bI fa), .int (bI bt)])), (ba, .inl (cI, 40, .inl bf))] := hD
      refine lv_istore_n (lv' := [(3, .int (-1)), (2, .int (nI (mkN x lv))), (0, .ref h0), (1, .int x)]) hx hb dX2_hear_38 rfl hl (by decide) rfl (fun ls hl => ?_)
      refine lv_iload_n hx hb dX2_hear_39 rfl (lv_at hl 0 rfl) ?_
      refine lv_iconst (v := (-1)) hx hb dX2_hear_40 rfl ?_
      refine lv_icmp_ne (tgt := 46) hx hb dX2_hear_41 (by decide) (fun c41 => ?_) (fun c41 => ?_)
      · skip
        
        exact absurd rfl c41
      · skip
        
        refine lv_iconst (v := nI 0) hx hb dX2_hear_44 rfl ?_
        refine W_q hQ ?_
        exact rt_z () hx hb hr hlocks dX2_hear_45 hS hP hD rfl rfl
    · skip
      have k23 : 2 = 0 := (nI_eq (a := 2) (b := 0) (by omega) (by omega)).mp c23
      exact False.elim (by omega)
  refine lv_icmp_eq (tgt := 12) hx hb dX2_hear_5 (by decide) (fun c5 => ?_) (fun c5 => ?_)
  · skip
    
    refine lv_iconst (v := nI 0) hx hb dX2_hear_12 rfl ?_
    refine lv_to (y := nI (mkN x lv)) (congrArg nI (mkN_0 c5).symm) ?_
    exact L13 () _ _ hP hD hS _ (lv_sub hl [0, 1] rfl)
  · skip
    
    refine lv_iconst (v := nI 1) hx hb dX2_hear_8 rfl ?_
    refine lv_to (y := nI (mkN x lv)) (congrArg nI (mkN_1 c5).symm) ?_
    refine lv_goto (tgt := 13) hx hb dX2_hear_9 (by decide) ?_
    exact L13 () _ _ hP hD hS _ (lv_sub hl [0, 1] rfl)

set_option maxHeartbeats 4000000 in
set_option maxRecDepth 100000 in
theorem c_X2_hear_read_cont (l : Launch) (D : va_G) (cI cG : ClassId) (tt : Nat × Nat × Nat) (sz : Nat) (h0 : Nat) (sc : Nat) (rd : Nat) (ib : Nat) (lv : Int32) (rk : Int32) (on : Nat) (qt : Nat) (lb : Int32) (ear : Nat) (ba : Nat) (tgt : Nat) (nb : Nat) (g : Nat) (gb : Nat) (st : Bool) (fa : Bool) (bt : Bool) (bf : Nat → Int32) (nf : Nat → Nat) (x : Int32) (hear : ear < 2048) (hon : on ≤ 10) (hqt : qt < 400) (ht : tgt < 256) (hq : ¬ qtN (onN (plN (mkN x lv) ear) on) qt = 400) (hg : g < 16) (hgb : gb = 4) (hnb : nb < 80) (hB : RB bf nb nf) (hc : tgR tgt (2 * g + plN (mkN x lv) ear) (st, fa, bt, nb, nf) = (-1)) : Met l yX2_hear wsX2_hear ({ frames := 6, cells := 0, slots := 0, locals := 122 }) (PC D cI cG tt [.ref h0, .int x] [(h0, .inr (2, [.ref sc, .ref rd, .ref ib, .int (nI 2), .int lv, .int rk, .int (nI on), .int (nI qt), .int lb])), (sc, .inr (5, [.int (nI ear)])), (rd, .inr (4, [.int (nI tgt), .ref ba, .int (nI nb), .int (nI g), .int (nI gb), .int (bI st), .int (bI fa), .int (bI bt)])), (ba, .inl (cI, 40, .inl bf))] sz) (QI (fun (r : Int32) (u : Bool × Bool × Bool × Nat × (Nat → Nat) × (Nat → Int32)) => match u with | (st2, fa2, bt2, nb2, nf2, bf2) => r = nI 0 ∧ (st2, fa2, bt2, nb2, nf2) = tgS (2 * g + plN (mkN x lv) ear) (st, fa, bt, nb, nf) ∧ RB bf2 nb2 nf2) (fun (u : Bool × Bool × Bool × Nat × (Nat → Nat) × (Nat → Int32)) => match u with | (st2, fa2, bt2, nb2, nf2, bf2) => [(h0, .inr (2, [.ref sc, .ref rd, .ref ib, .int (nI 2), .int x, .int rk, .int (nI (onN (plN (mkN x lv) ear) on)), .int (nI (qtN (onN (plN (mkN x lv) ear) on) qt)), .int lb])), (sc, .inr (5, [.int (nI (rN ear (kN ear)))])), (rd, .inr (4, [.int (nI tgt), .ref ba, .int (nI nb2), .int (nI 0), .int (nI 0), .int (bI st2), .int (bI fa2), .int (bI bt2)])), (ba, .inl (cI, 40, .inl bf2))]) D (va_A [(h0, .inr (2, [.ref sc, .ref rd, .ref ib, .int (nI 2), .int lv, .int rk, .int (nI on), .int (nI qt), .int lb])), (sc, .inr (5, [.int (nI ear)])), (rd, .inr (4, [.int (nI tgt), .ref ba, .int (nI nb), .int (nI g), .int (nI gb), .int (bI st), .int (bI fa), .int (bI bt)])), (ba, .inl (cI, 40, .inl bf))] sz)) 0 0 (va_A [(h0, .inr (2, [.ref sc, .ref rd, .ref ib, .int (nI 2), .int lv, .int rk, .int (nI on), .int (nI qt), .int lb])), (sc, .inr (5, [.int (nI ear)])), (rd, .inr (4, [.int (nI tgt), .ref ba, .int (nI nb), .int (nI g), .int (nI gb), .int (bI st), .int (bI fa), .int (bI bt)])), (ba, .inl (cI, 40, .inl bf))] sz) := by
  refine ct_of (y := yX2_hear) (cc := cX2_hear) (maxL := 4) (ret := (some .boolean)) (Qf := QI (fun (r : Int32) (u : Bool × Bool × Bool × Nat × (Nat → Nat) × (Nat → Int32)) => match u with | (st2, fa2, bt2, nb2, nf2, bf2) => r = nI 0 ∧ (st2, fa2, bt2, nb2, nf2) = tgS (2 * g + plN (mkN x lv) ear) (st, fa, bt, nb, nf) ∧ RB bf2 nb2 nf2) (fun (u : Bool × Bool × Bool × Nat × (Nat → Nat) × (Nat → Int32)) => match u with | (st2, fa2, bt2, nb2, nf2, bf2) => [(h0, .inr (2, [.ref sc, .ref rd, .ref ib, .int (nI 2), .int x, .int rk, .int (nI (onN (plN (mkN x lv) ear) on)), .int (nI (qtN (onN (plN (mkN x lv) ear) on) qt)), .int lb])), (sc, .inr (5, [.int (nI (rN ear (kN ear)))])), (rd, .inr (4, [.int (nI tgt), .ref ba, .int (nI nb2), .int (nI 0), .int (nI 0), .int (bI st2), .int (bI fa2), .int (bI bt2)])), (ba, .inl (cI, 40, .inl bf2))]) D) (by decide) rfl ?_
  intro p e s m args below meth c A Q R H locs hR hQ hx hb hml hr hts hown hlocks hin hP hD hE hT hA hS
  have hK := hE.1
  have hl := lv_entry ([.ref h0, .int x]) (n := 4) (Nat.le_of_ble_eq_true rfl)
  rw [lg_entry_eq]
  generalize (lg_sl ([.ref h0, .int x]) ++ List.replicate (4 - (lg_sl ([.ref h0, .int x])).length) Slot.unset).toArray = ls at hl ⊢
  have hl : lv_has ls 4 [(0, .ref h0), (1, .int x)] := hl
  refine lv_iload_n hx hb dX2_hear_0 rfl (lv_at hl 1 rfl) ?_
  refine lv_aload_n hx hb dX2_hear_1 rfl (lv_at hl 0 rfl) ?_
  refine va_get (D := D) (ci := 2) (v := .int lv) (C := RX2) (T := TX2) (N := 9) hx hb hts inX2_hear_X2 hown hK hP 0 rfl rfl 4 (by decide) (hts (.fieldLink RX2 31 "ScrambledLine$Listener" "levelBefore" "I") (by decide +kernel)) (fun _ h9 => h9) rfl dX2_hear_2 ?_
  have L13 : ∀ (_ : Unit), ∀ (H : Heap) (locs : List Loc), va_P D vwCl [(h0, .inr (2, [.ref sc, .ref rd, .ref ib, .int (nI 2), .int lv, .int rk, .int (nI on), .int (nI qt), .int lb])), (sc, .inr (5, [.int (nI ear)])), (rd, .inr (4, [.int (nI tgt), .ref ba, .int (nI nb), .int (nI g), .int (nI gb), .int (bI st), .int (bI fa), .int (bI bt)])), (ba, .inl (cI, 40, .inl bf))] H → va_D A [(h0, .inr (2, [.ref sc, .ref rd, .ref ib, .int (nI 2), .int lv, .int rk, .int (nI on), .int (nI qt), .int lb])), (sc, .inr (5, [.int (nI ear)])), (rd, .inr (4, [.int (nI tgt), .ref ba, .int (nI nb), .int (nI g), .int (nI gb), .int (bI st), .int (bI fa), .int (bI bt)])), (ba, .inl (cI, 40, .inl bf))] → va_S A s.heap H locs → ∀ ls : Array Slot, lv_has ls 4 [(0, .ref h0), (1, .int x)] → W p l e R s m args below meth c H locs 0 0 Q (F0 m 13 ls [.int (nI (mkN x lv))]) := by
    intro _  H locs hP hD hS ls hl
    have hmk := mkN_lt x lv
    refine lv_istore_n (lv' := [(2, .int (nI (mkN x lv))), (0, .ref h0), (1, .int x)]) hx hb dX2_hear_13 rfl hl (by decide) rfl (fun ls hl => ?_)
    refine lv_aload_n hx hb dX2_hear_14 rfl (lv_at hl 1 rfl) ?_
    refine lv_iload_n hx hb dX2_hear_15 rfl (lv_at hl 2 rfl) ?_
    refine va_put (D := D) (ci := 2) (v := .int x) (ty := .int) (C := RX2) (T := TX2) (N := 9) hx hb hts inX2_hear_X2 tyX2 tyX2_ok nmX2 hown hK hP hD hS 0 rfl rfl 4 (by decide) (hts (.fieldLink RX2 31 "ScrambledLine$Listener" "levelBefore" "I") (by decide +kernel)) (fun _ h9 => h9) rfl (by decide +kernel) rfl rfl (Nat.le_of_ble_eq_true rfl) dX2_hear_16 (fun H locs hP hD hS => ?_)
    have hP : va_P D vwCl [(h0, .inr (2, [.ref sc, .ref rd, .ref ib, .int (nI 2), .int x, .int rk, .int (nI on), .int (nI qt), .int lb])), (sc, .inr (5, [.int (nI ear)])), (rd, .inr (4, [.int (nI tgt), .ref ba, .int (nI nb), .int (nI g), .int (nI gb), .int (bI st), .int (bI fa), .int (bI bt)])), (ba, .inl (cI, 40, .inl bf))] H := hP
    have hD : va_D A [(h0, .inr (2, [.ref sc, .ref rd, .ref ib, .int (nI 2), .int x, .int rk, .int (nI on), .int (nI qt), .int lb])), (sc, .inr (5, [.int (nI ear)])), (rd, .inr (4, [.int (nI tgt), .ref ba, .int (nI nb), .int (nI g), .int (nI gb), .int (bI st), .int (bI fa), .int (bI bt)])), (ba, .inl (cI, 40, .inl bf))] := hD
    refine lv_aload_n hx hb dX2_hear_19 rfl (lv_at hl 1 rfl) ?_
    refine va_get (D := D) (ci := 2) (v := .int (nI 2)) (C := RX2) (T := TX2) (N := 9) hx hb hts inX2_hear_X2 hown hK hP 0 rfl rfl 3 (by decide) (hts (.fieldLink RX2 27 "ScrambledLine$Listener" "mode" "I") (by decide +kernel)) (fun _ h9 => h9) rfl dX2_hear_20 ?_
    refine lv_if_ne (tgt := 33) hx hb dX2_hear_23 (by decide) (fun c23 => ?_) (fun c23 => ?_)
    · skip
      have k23 : ¬ 2 = 0 := fun zq => c23 ((nI_eq (a := 2) (b := 0) (by omega) (by omega)).mpr zq)
      refine lv_aload_n hx hb dX2_hear_33 rfl (lv_at hl 1 rfl) ?_
      refine lv_iload_n hx hb dX2_hear_34 rfl (lv_at hl 0 rfl) ?_
      refine ca_i (wr := []) (ru_V (As := [.int (nI (mkN x lv))]) (rest := []) ⟨hx, hb, hml, hown, hts⟩ (c_X2_follow_read_cont l D cI cG tt H.size h0 sc rd ib x rk on qt lb ear ba tgt nb g gb st fa bt bf nf (mkN x lv) (by omega) (by omega) (by omega) (by omega) (by omega) (by omega) (by omega) (by omega) (by omega) hB hc) (cwV 1 hts gX2_hear_X2_follow rfl rfl rfl (by decide +kernel) ⟨by rw [hR]; exact Nat.le_of_ble_eq_true rfl, by rw [hR]; exact Nat.le_of_ble_eq_true rfl⟩) hP hD hE hT hS hA [0, 1, 2, 3] rfl (by decide) (va_recv hK hP (ci := 2) (q0 := 0) rfl rfl) rfl hl.1 rfl (Nat.le_of_ble_eq_true rfl) dX2_hear_35 ⟨by rw [hR]; exact Nat.le_of_ble_eq_true rfl, by rw [hR]; exact Nat.le_of_ble_eq_true rfl⟩) hP hD hS hA [0, 1, 2, 3] [] rfl rfl (by decide) (by decide) (fun r35 u H locs hw hP hD hS => ?_)
      obtain ⟨st2_35, fa2_35, bt2_35, nb2_35, nf2_35, bf2_35⟩ := u
      obtain ⟨rfl, e1_35, hB2_35⟩ := hw
      have hP : va_P D vwCl [(h0, .inr (2, [.ref sc, .ref rd, .ref ib, .int (nI 2), .int x, .int rk, .int (nI (onN (plN (mkN x lv) ear) on)), .int (nI (qtN (onN (plN (mkN x lv) ear) on) qt)), .int lb])), (sc, .inr (5, [.int (nI (rN ear (kN ear)))])), (rd, .inr (4, [.int (nI tgt), .ref ba, .int (nI nb2_35), .int (nI 0), .int (nI 0), .int (bI st2_35), .int (bI fa2_35), .int (bI bt2_35)])), (ba, .inl (cI, 40, .inl bf2_35))] H := hP
      have hD : va_D A [(h0, .inr (2, [.ref sc, .ref rd, .ref ib, .int (nI 2), .int x, .int rk, .int (nI (onN (plN (mkN x lv) ear) on)), .int (nI (qtN (onN (plN (mkN x lv) ear) on) qt)), .int lb])), (sc, .inr (5, [.int (nI (rN ear (kN ear)))])), (rd, .inr (4, [.int (nI tgt), .ref ba, .int (nI nb2_35), .int (nI 0), .int (nI 0), .int (bI st2_35), .int (bI fa2_35), .int (bI bt2_35)])), (ba, .inl (cI, 40, .inl bf2_35))] := hD
      refine lv_istore_n (lv' := [(3, .int (-1)), (2, .int (nI (mkN x lv))), (0, .ref h0), (1, .int x)]) hx hb dX2_hear_38 rfl hl (by decide) rfl (fun ls hl => ?_)
      refine lv_iload_n hx hb dX2_hear_39 rfl (lv_at hl 0 rfl) ?_
      refine lv_iconst (v := (-1)) hx hb dX2_hear_40 rfl ?_
      refine lv_icmp_ne (tgt := 46) hx hb dX2_hear_41 (by decide) (fun c41 => ?_) (fun c41 => ?_)
      · skip
        
        exact absurd rfl c41
      · skip
        
        refine lv_iconst (v := nI 0) hx hb dX2_hear_44 rfl ?_
        refine W_q hQ ?_
        exact rt_z (st2_35, fa2_35, bt2_35, nb2_35, nf2_35, bf2_35) hx hb hr hlocks dX2_hear_45 hS hP hD (⟨rfl, e1_35, hB2_35⟩) rfl
    · skip
      have k23 : 2 = 0 := (nI_eq (a := 2) (b := 0) (by omega) (by omega)).mp c23
      exact False.elim (by omega)
  refine lv_icmp_eq (tgt := 12) hx hb dX2_hear_5 (by decide) (fun c5 => ?_) (fun c5 => ?_)
  · skip
    
    refine lv_iconst (v := nI 0) hx hb dX2_hear_12 rfl ?_
    refine lv_to (y := nI (mkN x lv)) (congrArg nI (mkN_0 c5).symm) ?_
    exact L13 () _ _ hP hD hS _ (lv_sub hl [0, 1] rfl)
  · skip
    
    refine lv_iconst (v := nI 1) hx hb dX2_hear_8 rfl ?_
    refine lv_to (y := nI (mkN x lv)) (congrArg nI (mkN_1 c5).symm) ?_
    refine lv_goto (tgt := 13) hx hb dX2_hear_9 (by decide) ?_
    exact L13 () _ _ hP hD hS _ (lv_sub hl [0, 1] rfl)

theorem inX2_hear_X4 : ∀ w ∈ u_ws RX4 TX4 8, w ∈ wsX2_hear := by decide +kernel
set_option maxHeartbeats 4000000 in
set_option maxRecDepth 100000 in
theorem c_X2_hear_read_lose (l : Launch) (D : va_G) (cI cG : ClassId) (tt : Nat × Nat × Nat) (sz : Nat) (h0 : Nat) (sc : Nat) (rd : Nat) (ib : Nat) (lv : Int32) (rk : Int32) (on : Nat) (qt : Nat) (lb : Int32) (ear : Nat) (ba : Nat) (tgt : Nat) (nb : Nat) (g : Nat) (gb : Nat) (st : Bool) (fa : Bool) (bt : Bool) (bf : Nat → Int32) (nf : Nat → Nat) (q1 : Nat) (q2 : Nat) (gs : Int32) (gl : Int32) (cf : Nat → Int32) (gf : Nat → Int32) (x : Int32) (hear : ear < 2048) (hon : on ≤ 10) (hqt : qt < 400) (hq : qtN (onN (plN (mkN x lv) ear) on) qt = 400) : Met l yX2_hear wsX2_hear ({ frames := 6, cells := 0, slots := 0, locals := 122 }) (PC D cI cG tt [.ref h0, .int x] [(h0, .inr (2, [.ref sc, .ref rd, .ref ib, .int (nI 2), .int lv, .int rk, .int (nI on), .int (nI qt), .int lb])), (sc, .inr (5, [.int (nI ear)])), (rd, .inr (4, [.int (nI tgt), .ref ba, .int (nI nb), .int (nI g), .int (nI gb), .int (bI st), .int (bI fa), .int (bI bt)])), (ba, .inl (cI, 40, .inl bf)), (ib, .inr (1, [.ref q1, .ref q2, .int gs, .int gl])), (q1, .inl (cI, 11, .inl cf)), (q2, .inl (cI, 24, .inl gf))] sz) (QI (fun (r : Int32) (u : Unit) => r = nI 1) (fun (u : Unit) => [(h0, .inr (2, [.ref sc, .ref rd, .ref ib, .int (nI 0), .int x, .int (nI 0), .int (nI (onN (plN (mkN x lv) ear) on)), .int (nI (qtN (onN (plN (mkN x lv) ear) on) qt)), .int lb])), (sc, .inr (5, [.int (nI (rN ear (kN ear)))])), (rd, .inr (4, [.int (nI tgt), .ref ba, .int (nI nb), .int (nI g), .int (nI gb), .int (bI st), .int (bI fa), .int (bI bt)])), (ba, .inl (cI, 40, .inl bf)), (ib, .inr (1, [.ref q1, .ref q2, .int gs, .int gl])), (q1, .inl (cI, 11, .inl (upd cf 10 (cf 10 + nI 1)))), (q2, .inl (cI, 24, .inl gf))]) D (va_A [(h0, .inr (2, [.ref sc, .ref rd, .ref ib, .int (nI 2), .int lv, .int rk, .int (nI on), .int (nI qt), .int lb])), (sc, .inr (5, [.int (nI ear)])), (rd, .inr (4, [.int (nI tgt), .ref ba, .int (nI nb), .int (nI g), .int (nI gb), .int (bI st), .int (bI fa), .int (bI bt)])), (ba, .inl (cI, 40, .inl bf)), (ib, .inr (1, [.ref q1, .ref q2, .int gs, .int gl])), (q1, .inl (cI, 11, .inl cf)), (q2, .inl (cI, 24, .inl gf))] sz)) 0 0 (va_A [(h0, .inr (2, [.ref sc, .ref rd, .ref ib, .int (nI 2), .int lv, .int rk, .int (nI on), .int (nI qt), .int lb])), (sc, .inr (5, [.int (nI ear)])), (rd, .inr (4, [.int (nI tgt), .ref ba, .int (nI nb), .int (nI g), .int (nI gb), .int (bI st), .int (bI fa), .int (bI bt)])), (ba, .inl (cI, 40, .inl bf)), (ib, .inr (1, [.ref q1, .ref q2, .int gs, .int gl])), (q1, .inl (cI, 11, .inl cf)), (q2, .inl (cI, 24, .inl gf))] sz) := by
  refine ct_of (y := yX2_hear) (cc := cX2_hear) (maxL := 4) (ret := (some .boolean)) (Qf := QI (fun (r : Int32) (u : Unit) => r = nI 1) (fun (u : Unit) => [(h0, .inr (2, [.ref sc, .ref rd, .ref ib, .int (nI 0), .int x, .int (nI 0), .int (nI (onN (plN (mkN x lv) ear) on)), .int (nI (qtN (onN (plN (mkN x lv) ear) on) qt)), .int lb])), (sc, .inr (5, [.int (nI (rN ear (kN ear)))])), (rd, .inr (4, [.int (nI tgt), .ref ba, .int (nI nb), .int (nI g), .int (nI gb), .int (bI st), .int (bI fa), .int (bI bt)])), (ba, .inl (cI, 40, .inl bf)), (ib, .inr (1, [.ref q1, .ref q2, .int gs, .int gl])), (q1, .inl (cI, 11, .inl (upd cf 10 (cf 10 + nI 1)))), (q2, .inl (cI, 24, .inl gf))]) D) (by decide) rfl ?_
  intro p e s m args below meth c A Q R H locs hR hQ hx hb hml hr hts hown hlocks hin hP hD hE hT hA hS
  have hK := hE.1
  have hl := lv_entry ([.ref h0, .int x]) (n := 4) (Nat.le_of_ble_eq_true rfl)
  rw [lg_entry_eq]
  generalize (lg_sl ([.ref h0, .int x]) ++ List.replicate (4 - (lg_sl ([.ref h0, .int x])).length) Slot.unset).toArray = ls at hl ⊢
  have hl : lv_has ls 4 [(0, .ref h0), (1, .int x)] := hl
  refine lv_iload_n hx hb dX2_hear_0 rfl (lv_at hl 1 rfl) ?_
  refine lv_aload_n hx hb dX2_hear_1 rfl (lv_at hl 0 rfl) ?_
  refine va_get (D := D) (ci := 2) (v := .int lv) (C := RX2) (T := TX2) (N := 9) hx hb hts inX2_hear_X2 hown hK hP 0 rfl rfl 4 (by decide) (hts (.fieldLink RX2 31 "ScrambledLine$Listener" "levelBefore" "I") (by decide +kernel)) (fun _ h9 => h9) rfl dX2_hear_2 ?_
  have L13 : ∀ (_ : Unit), ∀ (H : Heap) (locs : List Loc), va_P D vwCl [(h0, .inr (2, [.ref sc, .ref rd, .ref ib, .int (nI 2), .int lv, .int rk, .int (nI on), .int (nI qt), .int lb])), (sc, .inr (5, [.int (nI ear)])), (rd, .inr (4, [.int (nI tgt), .ref ba, .int (nI nb), .int (nI g), .int (nI gb), .int (bI st), .int (bI fa), .int (bI bt)])), (ba, .inl (cI, 40, .inl bf)), (ib, .inr (1, [.ref q1, .ref q2, .int gs, .int gl])), (q1, .inl (cI, 11, .inl cf)), (q2, .inl (cI, 24, .inl gf))] H → va_D A [(h0, .inr (2, [.ref sc, .ref rd, .ref ib, .int (nI 2), .int lv, .int rk, .int (nI on), .int (nI qt), .int lb])), (sc, .inr (5, [.int (nI ear)])), (rd, .inr (4, [.int (nI tgt), .ref ba, .int (nI nb), .int (nI g), .int (nI gb), .int (bI st), .int (bI fa), .int (bI bt)])), (ba, .inl (cI, 40, .inl bf)), (ib, .inr (1, [.ref q1, .ref q2, .int gs, .int gl])), (q1, .inl (cI, 11, .inl cf)), (q2, .inl (cI, 24, .inl gf))] → va_S A s.heap H locs → ∀ ls : Array Slot, lv_has ls 4 [(0, .ref h0), (1, .int x)] → W p l e R s m args below meth c H locs 0 0 Q (F0 m 13 ls [.int (nI (mkN x lv))]) := by
    intro _  H locs hP hD hS ls hl
    have hmk := mkN_lt x lv
    refine lv_istore_n (lv' := [(2, .int (nI (mkN x lv))), (0, .ref h0), (1, .int x)]) hx hb dX2_hear_13 rfl hl (by decide) rfl (fun ls hl => ?_)
    refine lv_aload_n hx hb dX2_hear_14 rfl (lv_at hl 1 rfl) ?_
    refine lv_iload_n hx hb dX2_hear_15 rfl (lv_at hl 2 rfl) ?_
    refine va_put (D := D) (ci := 2) (v := .int x) (ty := .int) (C := RX2) (T := TX2) (N := 9) hx hb hts inX2_hear_X2 tyX2 tyX2_ok nmX2 hown hK hP hD hS 0 rfl rfl 4 (by decide) (hts (.fieldLink RX2 31 "ScrambledLine$Listener" "levelBefore" "I") (by decide +kernel)) (fun _ h9 => h9) rfl (by decide +kernel) rfl rfl (Nat.le_of_ble_eq_true rfl) dX2_hear_16 (fun H locs hP hD hS => ?_)
    have hP : va_P D vwCl [(h0, .inr (2, [.ref sc, .ref rd, .ref ib, .int (nI 2), .int x, .int rk, .int (nI on), .int (nI qt), .int lb])), (sc, .inr (5, [.int (nI ear)])), (rd, .inr (4, [.int (nI tgt), .ref ba, .int (nI nb), .int (nI g), .int (nI gb), .int (bI st), .int (bI fa), .int (bI bt)])), (ba, .inl (cI, 40, .inl bf)), (ib, .inr (1, [.ref q1, .ref q2, .int gs, .int gl])), (q1, .inl (cI, 11, .inl cf)), (q2, .inl (cI, 24, .inl gf))] H := hP
    have hD : va_D A [(h0, .inr (2, [.ref sc, .ref rd, .ref ib, .int (nI 2), .int x, .int rk, .int (nI on), .int (nI qt), .int lb])), (sc, .inr (5, [.int (nI ear)])), (rd, .inr (4, [.int (nI tgt), .ref ba, .int (nI nb), .int (nI g), .int (nI gb), .int (bI st), .int (bI fa), .int (bI bt)])), (ba, .inl (cI, 40, .inl bf)), (ib, .inr (1, [.ref q1, .ref q2, .int gs, .int gl])), (q1, .inl (cI, 11, .inl cf)), (q2, .inl (cI, 24, .inl gf))] := hD
    refine lv_aload_n hx hb dX2_hear_19 rfl (lv_at hl 1 rfl) ?_
    refine va_get (D := D) (ci := 2) (v := .int (nI 2)) (C := RX2) (T := TX2) (N := 9) hx hb hts inX2_hear_X2 hown hK hP 0 rfl rfl 3 (by decide) (hts (.fieldLink RX2 27 "ScrambledLine$Listener" "mode" "I") (by decide +kernel)) (fun _ h9 => h9) rfl dX2_hear_20 ?_
    refine lv_if_ne (tgt := 33) hx hb dX2_hear_23 (by decide) (fun c23 => ?_) (fun c23 => ?_)
    · skip
      have k23 : ¬ 2 = 0 := fun zq => c23 ((nI_eq (a := 2) (b := 0) (by omega) (by omega)).mpr zq)
      refine lv_aload_n hx hb dX2_hear_33 rfl (lv_at hl 1 rfl) ?_
      refine lv_iload_n hx hb dX2_hear_34 rfl (lv_at hl 0 rfl) ?_
      refine ca_i (wr := [(ib, .inr (1, [.ref q1, .ref q2, .int gs, .int gl])), (q1, .inl (cI, 11, .inl cf)), (q2, .inl (cI, 24, .inl gf))]) (ru_V (As := [.int (nI (mkN x lv))]) (rest := []) ⟨hx, hb, hml, hown, hts⟩ (c_X2_follow_read_lose l D cI cG tt H.size h0 sc rd ib x rk on qt lb ear ba tgt nb g gb st fa bt bf nf (mkN x lv) (by omega) (by omega) (by omega) (by omega) (by omega)) (cwV 1 hts gX2_hear_X2_follow rfl rfl rfl (by decide +kernel) ⟨by rw [hR]; exact Nat.le_of_ble_eq_true rfl, by rw [hR]; exact Nat.le_of_ble_eq_true rfl⟩) hP hD hE hT hS hA [0, 1, 2, 3] rfl (by decide) (va_recv hK hP (ci := 2) (q0 := 0) rfl rfl) rfl hl.1 rfl (Nat.le_of_ble_eq_true rfl) dX2_hear_35 ⟨by rw [hR]; exact Nat.le_of_ble_eq_true rfl, by rw [hR]; exact Nat.le_of_ble_eq_true rfl⟩) hP hD hS hA [0, 1, 2, 3] [4, 5, 6] rfl rfl (by decide) (by decide) (fun r35 u H locs hw hP hD hS => ?_)
      obtain rfl := hw
      have hP : va_P D vwCl [(ib, .inr (1, [.ref q1, .ref q2, .int gs, .int gl])), (q1, .inl (cI, 11, .inl cf)), (q2, .inl (cI, 24, .inl gf)), (h0, .inr (2, [.ref sc, .ref rd, .ref ib, .int (nI 0), .int x, .int (nI 0), .int (nI (onN (plN (mkN x lv) ear) on)), .int (nI (qtN (onN (plN (mkN x lv) ear) on) qt)), .int lb])), (sc, .inr (5, [.int (nI (rN ear (kN ear)))])), (rd, .inr (4, [.int (nI tgt), .ref ba, .int (nI nb), .int (nI g), .int (nI gb), .int (bI st), .int (bI fa), .int (bI bt)])), (ba, .inl (cI, 40, .inl bf))] H := hP
      have hD : va_D A [(ib, .inr (1, [.ref q1, .ref q2, .int gs, .int gl])), (q1, .inl (cI, 11, .inl cf)), (q2, .inl (cI, 24, .inl gf)), (h0, .inr (2, [.ref sc, .ref rd, .ref ib, .int (nI 0), .int x, .int (nI 0), .int (nI (onN (plN (mkN x lv) ear) on)), .int (nI (qtN (onN (plN (mkN x lv) ear) on) qt)), .int lb])), (sc, .inr (5, [.int (nI (rN ear (kN ear)))])), (rd, .inr (4, [.int (nI tgt), .ref ba, .int (nI nb), .int (nI g), .int (nI gb), .int (bI st), .int (bI fa), .int (bI bt)])), (ba, .inl (cI, 40, .inl bf))] := hD
      refine lv_istore_n (lv' := [(3, .int (nI 10)), (2, .int (nI (mkN x lv))), (0, .ref h0), (1, .int x)]) hx hb dX2_hear_38 rfl hl (by decide) rfl (fun ls hl => ?_)
      refine lv_iload_n hx hb dX2_hear_39 rfl (lv_at hl 0 rfl) ?_
      refine lv_iconst (v := (-1)) hx hb dX2_hear_40 rfl ?_
      refine lv_icmp_ne (tgt := 46) hx hb dX2_hear_41 (by decide) (fun c41 => ?_) (fun c41 => ?_)
      · skip
        
        refine lv_aload_n hx hb dX2_hear_46 rfl (lv_at hl 2 rfl) ?_
        refine va_get (D := D) (ci := 2) (v := .ref ib) (C := RX2) (T := TX2) (N := 9) hx hb hts inX2_hear_X2 hown hK hP 3 rfl rfl 2 (by decide) (hts (.fieldLink RX2 23 "ScrambledLine$Listener" "inbox" "LScrambledLine$Inbox;") (by decide +kernel)) (fun _ h9 => h9) rfl dX2_hear_47 ?_
        refine lv_iload_n hx hb dX2_hear_50 rfl (lv_at hl 0 rfl) ?_
        refine lv_aload_n hx hb dX2_hear_51 rfl (lv_at hl 2 rfl) ?_
        refine va_get (D := D) (ci := 2) (v := .ref rd) (C := RX2) (T := TX2) (N := 9) hx hb hts inX2_hear_X2 hown hK hP 3 rfl rfl 1 (by decide) (hts (.fieldLink RX2 49 "ScrambledLine$Listener" "reader" "LScrambledLine$Reader;") (by decide +kernel)) (fun _ h9 => h9) rfl dX2_hear_52 ?_
        refine va_getN (D := D) (ci := 4) (v := .ref ba) (C := RX4) (T := TX4) (N := 8) (ref := "ScrambledLine$Reader") hx hb hts inX2_hear_X4 hown hK hP 5 rfl rfl 1 (by decide) (hE.2.1.fX2_60) (fun _ h9 => h9) rfl dX2_hear_55 ?_
        refine ca_v (wr := [(h0, .inr (2, [.ref sc, .ref rd, .ref ib, .int (nI 0), .int x, .int (nI 0), .int (nI (onN (plN (mkN x lv) ear) on)), .int (nI (qtN (onN (plN (mkN x lv) ear) on) qt)), .int lb])), (sc, .inr (5, [.int (nI (rN ear (kN ear)))])), (rd, .inr (4, [.int (nI tgt), .ref ba, .int (nI nb), .int (nI g), .int (nI gb), .int (bI st), .int (bI fa), .int (bI bt)]))]) (ru_V (As := [.int (nI 10), .ref ba]) (rest := []) ⟨hx, hb, hml, hown, hts⟩ (c_X1_note l D cI cG tt H.size ib q1 q2 ba gs gl cf gf bf 10 0 (by omega) (fun q => absurd q (by decide))) (cwV 2 hts gX2_hear_X1_note rfl rfl rfl (by decide +kernel) ⟨by rw [hR]; exact Nat.le_of_ble_eq_true rfl, by rw [hR]; exact Nat.le_of_ble_eq_true rfl⟩) hP hD hE hT hS hA [0, 1, 2, 6] rfl (by decide) (va_recv hK hP (ci := 1) (q0 := 0) rfl rfl) rfl hl.1 rfl (Nat.le_of_ble_eq_true rfl) dX2_hear_58 ⟨by rw [hR]; exact Nat.le_of_ble_eq_true rfl, by rw [hR]; exact Nat.le_of_ble_eq_true rfl⟩) hP hD hS hA [0, 1, 2, 6] [3, 4, 5] rfl rfl (by decide) (by decide) (fun u H locs hw hP hD hS => ?_)
        obtain ⟨gs2_58, gl2_58, gf2_58⟩ := u
        obtain ⟨hz_58, hnz_58⟩ := hw
        have hP : va_P D vwCl [(h0, .inr (2, [.ref sc, .ref rd, .ref ib, .int (nI 0), .int x, .int (nI 0), .int (nI (onN (plN (mkN x lv) ear) on)), .int (nI (qtN (onN (plN (mkN x lv) ear) on) qt)), .int lb])), (sc, .inr (5, [.int (nI (rN ear (kN ear)))])), (rd, .inr (4, [.int (nI tgt), .ref ba, .int (nI nb), .int (nI g), .int (nI gb), .int (bI st), .int (bI fa), .int (bI bt)])), (ib, .inr (1, [.ref q1, .ref q2, .int gs2_58, .int gl2_58])), (q1, .inl (cI, 11, .inl (upd cf 10 (cf 10 + nI 1)))), (q2, .inl (cI, 24, .inl gf2_58)), (ba, .inl (cI, 40, .inl bf))] H := hP
        have hD : va_D A [(h0, .inr (2, [.ref sc, .ref rd, .ref ib, .int (nI 0), .int x, .int (nI 0), .int (nI (onN (plN (mkN x lv) ear) on)), .int (nI (qtN (onN (plN (mkN x lv) ear) on) qt)), .int lb])), (sc, .inr (5, [.int (nI (rN ear (kN ear)))])), (rd, .inr (4, [.int (nI tgt), .ref ba, .int (nI nb), .int (nI g), .int (nI gb), .int (bI st), .int (bI fa), .int (bI bt)])), (ib, .inr (1, [.ref q1, .ref q2, .int gs2_58, .int gl2_58])), (q1, .inl (cI, 11, .inl (upd cf 10 (cf 10 + nI 1)))), (q2, .inl (cI, 24, .inl gf2_58)), (ba, .inl (cI, 40, .inl bf))] := hD
        obtain ⟨rfl, rfl, rfl⟩ := nt_same (hnz_58 (by decide))
        refine lv_iconst (v := nI 1) hx hb dX2_hear_61 rfl ?_
        refine W_q hQ ?_
        exact rt_z () hx hb hr hlocks dX2_hear_62 hS (hP.sub [0, 1, 2, 6, 3, 4, 5] rfl) (hD.sub [0, 1, 2, 6, 3, 4, 5] (by decide) rfl) rfl rfl
      · skip
        
        exact absurd c41 (by decide)
    · skip
      have k23 : 2 = 0 := (nI_eq (a := 2) (b := 0) (by omega) (by omega)).mp c23
      exact False.elim (by omega)
  refine lv_icmp_eq (tgt := 12) hx hb dX2_hear_5 (by decide) (fun c5 => ?_) (fun c5 => ?_)
  · skip
    
    refine lv_iconst (v := nI 0) hx hb dX2_hear_12 rfl ?_
    refine lv_to (y := nI (mkN x lv)) (congrArg nI (mkN_0 c5).symm) ?_
    exact L13 () _ _ hP hD hS _ (lv_sub hl [0, 1] rfl)
  · skip
    
    refine lv_iconst (v := nI 1) hx hb dX2_hear_8 rfl ?_
    refine lv_to (y := nI (mkN x lv)) (congrArg nI (mkN_1 c5).symm) ?_
    refine lv_goto (tgt := 13) hx hb dX2_hear_9 (by decide) ?_
    exact L13 () _ _ hP hD hS _ (lv_sub hl [0, 1] rfl)

set_option maxHeartbeats 4000000 in
set_option maxRecDepth 100000 in
theorem c_X2_hear_read_end (l : Launch) (D : va_G) (cI cG : ClassId) (tt : Nat × Nat × Nat) (sz : Nat) (h0 : Nat) (sc : Nat) (rd : Nat) (ib : Nat) (lv : Int32) (rk : Int32) (on : Nat) (qt : Nat) (lb : Int32) (ear : Nat) (ba : Nat) (tgt : Nat) (nb : Nat) (g : Nat) (gb : Nat) (st : Bool) (fa : Bool) (bt : Bool) (bf : Nat → Int32) (nf : Nat → Nat) (k : Nat) (q1 : Nat) (q2 : Nat) (gs : Int32) (gl : Int32) (cf : Nat → Int32) (gf : Nat → Int32) (x : Int32) (hear : ear < 2048) (hon : on ≤ 10) (hqt : qt < 400) (ht : tgt < 256) (hq : ¬ qtN (onN (plN (mkN x lv) ear) on) qt = 400) (hg : g < 16) (hgb : gb = 4) (hnb : nb < 80) (hB : RB bf nb nf) (hk : k ≤ 10) (hc : tgR tgt (2 * g + plN (mkN x lv) ear) (st, fa, bt, nb, nf) = nI k) (hk0 : k = 0 → 26 ≤ nb ∧ byt nf 2 ≤ 24) : Met l yX2_hear wsX2_hear ({ frames := 6, cells := 0, slots := 0, locals := 122 }) (PC D cI cG tt [.ref h0, .int x] [(h0, .inr (2, [.ref sc, .ref rd, .ref ib, .int (nI 2), .int lv, .int rk, .int (nI on), .int (nI qt), .int lb])), (sc, .inr (5, [.int (nI ear)])), (rd, .inr (4, [.int (nI tgt), .ref ba, .int (nI nb), .int (nI g), .int (nI gb), .int (bI st), .int (bI fa), .int (bI bt)])), (ba, .inl (cI, 40, .inl bf)), (ib, .inr (1, [.ref q1, .ref q2, .int gs, .int gl])), (q1, .inl (cI, 11, .inl cf)), (q2, .inl (cI, 24, .inl gf))] sz) (QI (fun (r : Int32) (u : (Nat → Int32) × Int32 × Int32 × (Nat → Int32)) => match u with | (bf2, gs2, gl2, gf2) => r = nI 1 ∧ RB bf2 nb nf ∧ (k = 0 → gs2 = bf2 1 ∧ gl2 = nI (byt nf 2) ∧ gf2 = va_cpy bf2 gf 3 0 (byt nf 2)) ∧ (¬ k = 0 → gs2 = gs ∧ gl2 = gl ∧ gf2 = gf)) (fun (u : (Nat → Int32) × Int32 × Int32 × (Nat → Int32)) => match u with | (bf2, gs2, gl2, gf2) => [(h0, .inr (2, [.ref sc, .ref rd, .ref ib, .int (nI 1), .int x, .int rk, .int (nI (onN (plN (mkN x lv) ear) on)), .int (nI (qtN (onN (plN (mkN x lv) ear) on) qt)), .int (nI 0)])), (sc, .inr (5, [.int (nI (rN ear (kN ear)))])), (rd, .inr (4, [.int (nI tgt), .ref ba, .int (nI nb), .int (nI 0), .int (nI 0), .int (bI st), .int (bI fa), .int (bI bt)])), (ba, .inl (cI, 40, .inl bf2)), (ib, .inr (1, [.ref q1, .ref q2, .int gs2, .int gl2])), (q1, .inl (cI, 11, .inl (upd cf k (cf k + nI 1)))), (q2, .inl (cI, 24, .inl gf2))]) D (va_A [(h0, .inr (2, [.ref sc, .ref rd, .ref ib, .int (nI 2), .int lv, .int rk, .int (nI on), .int (nI qt), .int lb])), (sc, .inr (5, [.int (nI ear)])), (rd, .inr (4, [.int (nI tgt), .ref ba, .int (nI nb), .int (nI g), .int (nI gb), .int (bI st), .int (bI fa), .int (bI bt)])), (ba, .inl (cI, 40, .inl bf)), (ib, .inr (1, [.ref q1, .ref q2, .int gs, .int gl])), (q1, .inl (cI, 11, .inl cf)), (q2, .inl (cI, 24, .inl gf))] sz)) 0 0 (va_A [(h0, .inr (2, [.ref sc, .ref rd, .ref ib, .int (nI 2), .int lv, .int rk, .int (nI on), .int (nI qt), .int lb])), (sc, .inr (5, [.int (nI ear)])), (rd, .inr (4, [.int (nI tgt), .ref ba, .int (nI nb), .int (nI g), .int (nI gb), .int (bI st), .int (bI fa), .int (bI bt)])), (ba, .inl (cI, 40, .inl bf)), (ib, .inr (1, [.ref q1, .ref q2, .int gs, .int gl])), (q1, .inl (cI, 11, .inl cf)), (q2, .inl (cI, 24, .inl gf))] sz) := by
  refine ct_of (y := yX2_hear) (cc := cX2_hear) (maxL := 4) (ret := (some .boolean)) (Qf := QI (fun (r : Int32) (u : (Nat → Int32) × Int32 × Int32 × (Nat → Int32)) => match u with | (bf2, gs2, gl2, gf2) => r = nI 1 ∧ RB bf2 nb nf ∧ (k = 0 → gs2 = bf2 1 ∧ gl2 = nI (byt nf 2) ∧ gf2 = va_cpy bf2 gf 3 0 (byt nf 2)) ∧ (¬ k = 0 → gs2 = gs ∧ gl2 = gl ∧ gf2 = gf)) (fun (u : (Nat → Int32) × Int32 × Int32 × (Nat → Int32)) => match u with | (bf2, gs2, gl2, gf2) => [(h0, .inr (2, [.ref sc, .ref rd, .ref ib, .int (nI 1), .int x, .int rk, .int (nI (onN (plN (mkN x lv) ear) on)), .int (nI (qtN (onN (plN (mkN x lv) ear) on) qt)), .int (nI 0)])), (sc, .inr (5, [.int (nI (rN ear (kN ear)))])), (rd, .inr (4, [.int (nI tgt), .ref ba, .int (nI nb), .int (nI 0), .int (nI 0), .int (bI st), .int (bI fa), .int (bI bt)])), (ba, .inl (cI, 40, .inl bf2)), (ib, .inr (1, [.ref q1, .ref q2, .int gs2, .int gl2])), (q1, .inl (cI, 11, .inl (upd cf k (cf k + nI 1)))), (q2, .inl (cI, 24, .inl gf2))]) D) (by decide) rfl ?_
  intro p e s m args below meth c A Q R H locs hR hQ hx hb hml hr hts hown hlocks hin hP hD hE hT hA hS
  have hK := hE.1
  have hl := lv_entry ([.ref h0, .int x]) (n := 4) (Nat.le_of_ble_eq_true rfl)
  rw [lg_entry_eq]
  generalize (lg_sl ([.ref h0, .int x]) ++ List.replicate (4 - (lg_sl ([.ref h0, .int x])).length) Slot.unset).toArray = ls at hl ⊢
  have hl : lv_has ls 4 [(0, .ref h0), (1, .int x)] := hl
  refine lv_iload_n hx hb dX2_hear_0 rfl (lv_at hl 1 rfl) ?_
  refine lv_aload_n hx hb dX2_hear_1 rfl (lv_at hl 0 rfl) ?_
  refine va_get (D := D) (ci := 2) (v := .int lv) (C := RX2) (T := TX2) (N := 9) hx hb hts inX2_hear_X2 hown hK hP 0 rfl rfl 4 (by decide) (hts (.fieldLink RX2 31 "ScrambledLine$Listener" "levelBefore" "I") (by decide +kernel)) (fun _ h9 => h9) rfl dX2_hear_2 ?_
  have L13 : ∀ (_ : Unit), ∀ (H : Heap) (locs : List Loc), va_P D vwCl [(h0, .inr (2, [.ref sc, .ref rd, .ref ib, .int (nI 2), .int lv, .int rk, .int (nI on), .int (nI qt), .int lb])), (sc, .inr (5, [.int (nI ear)])), (rd, .inr (4, [.int (nI tgt), .ref ba, .int (nI nb), .int (nI g), .int (nI gb), .int (bI st), .int (bI fa), .int (bI bt)])), (ba, .inl (cI, 40, .inl bf)), (ib, .inr (1, [.ref q1, .ref q2, .int gs, .int gl])), (q1, .inl (cI, 11, .inl cf)), (q2, .inl (cI, 24, .inl gf))] H → va_D A [(h0, .inr (2, [.ref sc, .ref rd, .ref ib, .int (nI 2), .int lv, .int rk, .int (nI on), .int (nI qt), .int lb])), (sc, .inr (5, [.int (nI ear)])), (rd, .inr (4, [.int (nI tgt), .ref ba, .int (nI nb), .int (nI g), .int (nI gb), .int (bI st), .int (bI fa), .int (bI bt)])), (ba, .inl (cI, 40, .inl bf)), (ib, .inr (1, [.ref q1, .ref q2, .int gs, .int gl])), (q1, .inl (cI, 11, .inl cf)), (q2, .inl (cI, 24, .inl gf))] → va_S A s.heap H locs → ∀ ls : Array Slot, lv_has ls 4 [(0, .ref h0), (1, .int x)] → W p l e R s m args below meth c H locs 0 0 Q (F0 m 13 ls [.int (nI (mkN x lv))]) := by
    intro _  H locs hP hD hS ls hl
    have hmk := mkN_lt x lv
    refine lv_istore_n (lv' := [(2, .int (nI (mkN x lv))), (0, .ref h0), (1, .int x)]) hx hb dX2_hear_13 rfl hl (by decide) rfl (fun ls hl => ?_)
    refine lv_aload_n hx hb dX2_hear_14 rfl (lv_at hl 1 rfl) ?_
    refine lv_iload_n hx hb dX2_hear_15 rfl (lv_at hl 2 rfl) ?_
    refine va_put (D := D) (ci := 2) (v := .int x) (ty := .int) (C := RX2) (T := TX2) (N := 9) hx hb hts inX2_hear_X2 tyX2 tyX2_ok nmX2 hown hK hP hD hS 0 rfl rfl 4 (by decide) (hts (.fieldLink RX2 31 "ScrambledLine$Listener" "levelBefore" "I") (by decide +kernel)) (fun _ h9 => h9) rfl (by decide +kernel) rfl rfl (Nat.le_of_ble_eq_true rfl) dX2_hear_16 (fun H locs hP hD hS => ?_)
    have hP : va_P D vwCl [(h0, .inr (2, [.ref sc, .ref rd, .ref ib, .int (nI 2), .int x, .int rk, .int (nI on), .int (nI qt), .int lb])), (sc, .inr (5, [.int (nI ear)])), (rd, .inr (4, [.int (nI tgt), .ref ba, .int (nI nb), .int (nI g), .int (nI gb), .int (bI st), .int (bI fa), .int (bI bt)])), (ba, .inl (cI, 40, .inl bf)), (ib, .inr (1, [.ref q1, .ref q2, .int gs, .int gl])), (q1, .inl (cI, 11, .inl cf)), (q2, .inl (cI, 24, .inl gf))] H := hP
    have hD : va_D A [(h0, .inr (2, [.ref sc, .ref rd, .ref ib, .int (nI 2), .int x, .int rk, .int (nI on), .int (nI qt), .int lb])), (sc, .inr (5, [.int (nI ear)])), (rd, .inr (4, [.int (nI tgt), .ref ba, .int (nI nb), .int (nI g), .int (nI gb), .int (bI st), .int (bI fa), .int (bI bt)])), (ba, .inl (cI, 40, .inl bf)), (ib, .inr (1, [.ref q1, .ref q2, .int gs, .int gl])), (q1, .inl (cI, 11, .inl cf)), (q2, .inl (cI, 24, .inl gf))] := hD
    refine lv_aload_n hx hb dX2_hear_19 rfl (lv_at hl 1 rfl) ?_
    refine va_get (D := D) (ci := 2) (v := .int (nI 2)) (C := RX2) (T := TX2) (N := 9) hx hb hts inX2_hear_X2 hown hK hP 0 rfl rfl 3 (by decide) (hts (.fieldLink RX2 27 "ScrambledLine$Listener" "mode" "I") (by decide +kernel)) (fun _ h9 => h9) rfl dX2_hear_20 ?_
    refine lv_if_ne (tgt := 33) hx hb dX2_hear_23 (by decide) (fun c23 => ?_) (fun c23 => ?_)
    · skip
      have k23 : ¬ 2 = 0 := fun zq => c23 ((nI_eq (a := 2) (b := 0) (by omega) (by omega)).mpr zq)
      refine lv_aload_n hx hb dX2_hear_33 rfl (lv_at hl 1 rfl) ?_
      refine lv_iload_n hx hb dX2_hear_34 rfl (lv_at hl 0 rfl) ?_
      refine ca_i (wr := [(ib, .inr (1, [.ref q1, .ref q2, .int gs, .int gl])), (q1, .inl (cI, 11, .inl cf)), (q2, .inl (cI, 24, .inl gf))]) (ru_V (As := [.int (nI (mkN x lv))]) (rest := []) ⟨hx, hb, hml, hown, hts⟩ (c_X2_follow_read_end l D cI cG tt H.size h0 sc rd ib x rk on qt lb ear ba tgt nb g gb st fa bt bf nf (mkN x lv) k (by omega) (by omega) (by omega) (by omega) (by omega) (by omega) (by omega) (by omega) (by omega) hB (by omega) hc) (cwV 1 hts gX2_hear_X2_follow rfl rfl rfl (by decide +kernel) ⟨by rw [hR]; exact Nat.le_of_ble_eq_true rfl, by rw [hR]; exact Nat.le_of_ble_eq_true rfl⟩) hP hD hE hT hS hA [0, 1, 2, 3] rfl (by decide) (va_recv hK hP (ci := 2) (q0 := 0) rfl rfl) rfl hl.1 rfl (Nat.le_of_ble_eq_true rfl) dX2_hear_35 ⟨by rw [hR]; exact Nat.le_of_ble_eq_true rfl, by rw [hR]; exact Nat.le_of_ble_eq_true rfl⟩) hP hD hS hA [0, 1, 2, 3] [4, 5, 6] rfl rfl (by decide) (by decide) (fun r35 u H locs hw hP hD hS => ?_)
      obtain ⟨bf2_35, rfl⟩ : ∃ z, z = u := ⟨_, rfl⟩
      obtain ⟨rfl, hB2_35⟩ := hw
      have hP : va_P D vwCl [(ib, .inr (1, [.ref q1, .ref q2, .int gs, .int gl])), (q1, .inl (cI, 11, .inl cf)), (q2, .inl (cI, 24, .inl gf)), (h0, .inr (2, [.ref sc, .ref rd, .ref ib, .int (nI 1), .int x, .int rk, .int (nI (onN (plN (mkN x lv) ear) on)), .int (nI (qtN (onN (plN (mkN x lv) ear) on) qt)), .int (nI 0)])), (sc, .inr (5, [.int (nI (rN ear (kN ear)))])), (rd, .inr (4, [.int (nI tgt), .ref ba, .int (nI nb), .int (nI 0), .int (nI 0), .int (bI st), .int (bI fa), .int (bI bt)])), (ba, .inl (cI, 40, .inl bf2_35))] H := hP
      have hD : va_D A [(ib, .inr (1, [.ref q1, .ref q2, .int gs, .int gl])), (q1, .inl (cI, 11, .inl cf)), (q2, .inl (cI, 24, .inl gf)), (h0, .inr (2, [.ref sc, .ref rd, .ref ib, .int (nI 1), .int x, .int rk, .int (nI (onN (plN (mkN x lv) ear) on)), .int (nI (qtN (onN (plN (mkN x lv) ear) on) qt)), .int (nI 0)])), (sc, .inr (5, [.int (nI (rN ear (kN ear)))])), (rd, .inr (4, [.int (nI tgt), .ref ba, .int (nI nb), .int (nI 0), .int (nI 0), .int (bI st), .int (bI fa), .int (bI bt)])), (ba, .inl (cI, 40, .inl bf2_35))] := hD
      refine lv_istore_n (lv' := [(3, .int (nI k)), (2, .int (nI (mkN x lv))), (0, .ref h0), (1, .int x)]) hx hb dX2_hear_38 rfl hl (by decide) rfl (fun ls hl => ?_)
      refine lv_iload_n hx hb dX2_hear_39 rfl (lv_at hl 0 rfl) ?_
      refine lv_iconst (v := (-1)) hx hb dX2_hear_40 rfl ?_
      refine lv_icmp_ne (tgt := 46) hx hb dX2_hear_41 (by decide) (fun c41 => ?_) (fun c41 => ?_)
      · skip
        
        refine lv_aload_n hx hb dX2_hear_46 rfl (lv_at hl 2 rfl) ?_
        refine va_get (D := D) (ci := 2) (v := .ref ib) (C := RX2) (T := TX2) (N := 9) hx hb hts inX2_hear_X2 hown hK hP 3 rfl rfl 2 (by decide) (hts (.fieldLink RX2 23 "ScrambledLine$Listener" "inbox" "LScrambledLine$Inbox;") (by decide +kernel)) (fun _ h9 => h9) rfl dX2_hear_47 ?_
        refine lv_iload_n hx hb dX2_hear_50 rfl (lv_at hl 0 rfl) ?_
        refine lv_aload_n hx hb dX2_hear_51 rfl (lv_at hl 2 rfl) ?_
        refine va_get (D := D) (ci := 2) (v := .ref rd) (C := RX2) (T := TX2) (N := 9) hx hb hts inX2_hear_X2 hown hK hP 3 rfl rfl 1 (by decide) (hts (.fieldLink RX2 49 "ScrambledLine$Listener" "reader" "LScrambledLine$Reader;") (by decide +kernel)) (fun _ h9 => h9) rfl dX2_hear_52 ?_
        refine va_getN (D := D) (ci := 4) (v := .ref ba) (C := RX4) (T := TX4) (N := 8) (ref := "ScrambledLine$Reader") hx hb hts inX2_hear_X4 hown hK hP 5 rfl rfl 1 (by decide) (hE.2.1.fX2_60) (fun _ h9 => h9) rfl dX2_hear_55 ?_
        refine ca_v (wr := [(h0, .inr (2, [.ref sc, .ref rd, .ref ib, .int (nI 1), .int x, .int rk, .int (nI (onN (plN (mkN x lv) ear) on)), .int (nI (qtN (onN (plN (mkN x lv) ear) on) qt)), .int (nI 0)])), (sc, .inr (5, [.int (nI (rN ear (kN ear)))])), (rd, .inr (4, [.int (nI tgt), .ref ba, .int (nI nb), .int (nI 0), .int (nI 0), .int (bI st), .int (bI fa), .int (bI bt)]))]) (ru_V (As := [.int (nI k), .ref ba]) (rest := []) ⟨hx, hb, hml, hown, hts⟩ (c_X1_note l D cI cG tt H.size ib q1 q2 ba gs gl cf gf bf2_35 k (byt nf 2) (by omega) (fun q => ⟨RB_at hB2_35 (by have := hk0 q; omega), (hk0 q).2⟩)) (cwV 2 hts gX2_hear_X1_note rfl rfl rfl (by decide +kernel) ⟨by rw [hR]; exact Nat.le_of_ble_eq_true rfl, by rw [hR]; exact Nat.le_of_ble_eq_true rfl⟩) hP hD hE hT hS hA [0, 1, 2, 6] rfl (by decide) (va_recv hK hP (ci := 1) (q0 := 0) rfl rfl) rfl hl.1 rfl (Nat.le_of_ble_eq_true rfl) dX2_hear_58 ⟨by rw [hR]; exact Nat.le_of_ble_eq_true rfl, by rw [hR]; exact Nat.le_of_ble_eq_true rfl⟩) hP hD hS hA [0, 1, 2, 6] [3, 4, 5] rfl rfl (by decide) (by decide) (fun u H locs hw hP hD hS => ?_)
        obtain ⟨gs2_58, gl2_58, gf2_58⟩ := u
        obtain ⟨hz_58, hnz_58⟩ := hw
        have hP : va_P D vwCl [(h0, .inr (2, [.ref sc, .ref rd, .ref ib, .int (nI 1), .int x, .int rk, .int (nI (onN (plN (mkN x lv) ear) on)), .int (nI (qtN (onN (plN (mkN x lv) ear) on) qt)), .int (nI 0)])), (sc, .inr (5, [.int (nI (rN ear (kN ear)))])), (rd, .inr (4, [.int (nI tgt), .ref ba, .int (nI nb), .int (nI 0), .int (nI 0), .int (bI st), .int (bI fa), .int (bI bt)])), (ib, .inr (1, [.ref q1, .ref q2, .int gs2_58, .int gl2_58])), (q1, .inl (cI, 11, .inl (upd cf k (cf k + nI 1)))), (q2, .inl (cI, 24, .inl gf2_58)), (ba, .inl (cI, 40, .inl bf2_35))] H := hP
        have hD : va_D A [(h0, .inr (2, [.ref sc, .ref rd, .ref ib, .int (nI 1), .int x, .int rk, .int (nI (onN (plN (mkN x lv) ear) on)), .int (nI (qtN (onN (plN (mkN x lv) ear) on) qt)), .int (nI 0)])), (sc, .inr (5, [.int (nI (rN ear (kN ear)))])), (rd, .inr (4, [.int (nI tgt), .ref ba, .int (nI nb), .int (nI 0), .int (nI 0), .int (bI st), .int (bI fa), .int (bI bt)])), (ib, .inr (1, [.ref q1, .ref q2, .int gs2_58, .int gl2_58])), (q1, .inl (cI, 11, .inl (upd cf k (cf k + nI 1)))), (q2, .inl (cI, 24, .inl gf2_58)), (ba, .inl (cI, 40, .inl bf2_35))] := hD
        refine lv_iconst (v := nI 1) hx hb dX2_hear_61 rfl ?_
        refine W_q hQ ?_
        exact rt_z (bf2_35, gs2_58, gl2_58, gf2_58) hx hb hr hlocks dX2_hear_62 hS (hP.sub [0, 1, 2, 6, 3, 4, 5] rfl) (hD.sub [0, 1, 2, 6, 3, 4, 5] (by decide) rfl) (⟨rfl, hB2_35, hz_58, hnz_58⟩) rfl
      · skip
        
        exact absurd c41 (nI_m1 hk)
    · skip
      have k23 : 2 = 0 := (nI_eq (a := 2) (b := 0) (by omega) (by omega)).mp c23
      exact False.elim (by omega)
  refine lv_icmp_eq (tgt := 12) hx hb dX2_hear_5 (by decide) (fun c5 => ?_) (fun c5 => ?_)
  · skip
    
    refine lv_iconst (v := nI 0) hx hb dX2_hear_12 rfl ?_
    refine lv_to (y := nI (mkN x lv)) (congrArg nI (mkN_0 c5).symm) ?_
    exact L13 () _ _ hP hD hS _ (lv_sub hl [0, 1] rfl)
  · skip
    
    refine lv_iconst (v := nI 1) hx hb dX2_hear_8 rfl ?_
    refine lv_to (y := nI (mkN x lv)) (congrArg nI (mkN_1 c5).symm) ?_
    refine lv_goto (tgt := 13) hx hb dX2_hear_9 (by decide) ?_
    exact L13 () _ _ hP hD hS _ (lv_sub hl [0, 1] rfl)
