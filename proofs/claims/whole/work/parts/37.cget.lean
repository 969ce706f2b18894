theorem okC_2 {x : Int32} (h1 : ¬ x < 0) (h2 : x < nI 11) : okC x = true := by
  have a1 : (0 : Int32) ≤ x := Int32.not_lt.mp h1
  have a2 : x < (11 : Int32) := h2
  simp [okC, a1, a2]
theorem inX7_waiting_X3 : ∀ w ∈ u_ws RX3 TX3 6, w ∈ wsX7_waiting := by decide +kernel
theorem inX7_waiting_X6 : ∀ w ∈ u_ws RX6 TX6 10, w ∈ wsX7_waiting := by decide +kernel
theorem inX7_waiting_X7 : ∀ w ∈ u_ws RX7 TX7 3, w ∈ wsX7_waiting := by decide +kernel
set_option maxHeartbeats 4000000 in
set_option maxRecDepth 100000 in
theorem c_X7_waiting (l : Launch) (D : va_G) (cI cG : ClassId) (tt : Nat × Nat × Nat) (sz : Nat) (h0 : Nat) (se : Nat) (hi0 : Nat) (li : Nat) (ob : Nat) (sc : Nat) (gr : Nat) (gc : Int32) (gk : Int32) (inf : Int32) (idl : Int32) (gw : Int32) (bl : Int32) (ph : Nat) (ga : Nat) (fa : Nat) (src : Nat) (gl : Nat) (ff : Nat) (ql : Nat) : Met l yX7_waiting wsX7_waiting ({ frames := 0, cells := 0, slots := 0, locals := 0 }) (PC D cI cG tt [.ref h0] [(h0, .inr (7, [.ref se, .ref hi0, .ref li])), (se, .inr (6, [.ref ob, .ref sc, .ref gr, .int gc, .int gk, .int inf, .int idl, .int gw, .int bl, .int (nI ph)])), (ob, .inr (3, [.int (nI src), .ref ga, .int (nI gl), .ref fa, .int (nI ff), .int (nI ql)]))] sz) (QI (fun (r : Int32) (u : Unit) => r = nI ql) (fun (u : Unit) => [(h0, .inr (7, [.ref se, .ref hi0, .ref li])), (se, .inr (6, [.ref ob, .ref sc, .ref gr, .int gc, .int gk, .int inf, .int idl, .int gw, .int bl, .int (nI ph)])), (ob, .inr (3, [.int (nI src), .ref ga, .int (nI gl), .ref fa, .int (nI ff), .int (nI ql)]))]) D (va_A [(h0, .inr (7, [.ref se, .ref hi0, .ref li])), (se, .inr (6, [.ref ob, .ref sc, .ref gr, .int gc, .int gk, .int inf, .int idl, .int gw, .int bl, .int (nI ph)])), (ob, .inr (3, [.int (nI src), .ref ga, .int (nI gl), .ref fa, .int (nI ff), .int (nI ql)]))] sz)) 0 0 (va_A [(h0, .inr (7, [.ref se, .ref hi0, .ref li])), (se, .inr (6, [.ref ob, .ref sc, .ref gr, .int gc, .int gk, .int inf, .int idl, .int gw, .int bl, .int (nI ph)])), (ob, .inr (3, [.int (nI src), .ref ga, .int (nI gl), .ref fa, .int (nI ff), .int (nI ql)]))] sz) := by
  refine ct_of (y := yX7_waiting) (cc := cX7_waiting) (maxL := 1) (ret := (some .int)) (Qf := QI (fun (r : Int32) (u : Unit) => r = nI ql) (fun (u : Unit) => [(h0, .inr (7, [.ref se, .ref hi0, .ref li])), (se, .inr (6, [.ref ob, .ref sc, .ref gr, .int gc, .int gk, .int inf, .int idl, .int gw, .int bl, .int (nI ph)])), (ob, .inr (3, [.int (nI src), .ref ga, .int (nI gl), .ref fa, .int (nI ff), .int (nI ql)]))]) D) (by decide) rfl ?_
  intro p e s m args below meth c A Q R H locs hR hQ hx hb hml hr hts hown hlocks hin hP hD hE hT hA hS
  have hK := hE.1
  have hl := lv_entry ([.ref h0]) (n := 1) (Nat.le_of_ble_eq_true rfl)
  rw [lg_entry_eq]
  generalize (lg_sl ([.ref h0]) ++ List.replicate (1 - (lg_sl ([.ref h0])).length) Slot.unset).toArray = ls at hl ⊢
  have hl : lv_has ls 1 [(0, .ref h0)] := hl
  refine lv_aload_n hx hb dX7_waiting_0 rfl (lv_at hl 0 rfl) ?_
  refine va_get (D := D) (ci := 7) (v := .ref se) (C := RX7) (T := TX7) (N := 3) hx hb hts inX7_waiting_X7 hown hK hP 0 rfl rfl 0 (by decide) (hts (.fieldLink RX7 20 "ScrambledLine" "sender" "LScrambledLine$Sender;") (by decide +kernel)) (fun _ h9 => h9) rfl dX7_waiting_1 ?_
  refine va_getN (D := D) (ci := 6) (v := .ref ob) (C := RX6) (T := TX6) (N := 10) (ref := "ScrambledLine$Sender") hx hb hts inX7_waiting_X6 hown hK hP 1 rfl rfl 0 (by decide) (hE.2.1.fX7_44) (fun _ h9 => h9) rfl dX7_waiting_4 ?_
  refine va_getN (D := D) (ci := 3) (v := .int (nI ql)) (C := RX3) (T := TX3) (N := 6) (ref := "ScrambledLine$Outbox") hx hb hts inX7_waiting_X3 hown hK hP 2 rfl rfl 5 (by decide) (hE.2.1.fX7_74) (fun _ h9 => h9) rfl dX7_waiting_7 ?_
  refine W_q hQ ?_
  exact rt_i () hx hb hr hlocks dX7_waiting_10 hS hP hD rfl

theorem inX7_sending_X6 : ∀ w ∈ u_ws RX6 TX6 10, w ∈ wsX7_sending := by decide +kernel
theorem inX7_sending_X7 : ∀ w ∈ u_ws RX7 TX7 3, w ∈ wsX7_sending := by decide +kernel
set_option maxHeartbeats 4000000 in
set_option maxRecDepth 100000 in
theorem c_X7_sending (l : Launch) (D : va_G) (cI cG : ClassId) (tt : Nat × Nat × Nat) (sz : Nat) (h0 : Nat) (se : Nat) (hi0 : Nat) (li : Nat) (ob : Nat) (sc : Nat) (gr : Nat) (gc : Int32) (gk : Int32) (inf : Int32) (idl : Int32) (gw : Int32) (bl : Int32) (ph : Nat) (b : Bool) (hb0 : inf = bI b) : Met l yX7_sending wsX7_sending ({ frames := 0, cells := 0, slots := 0, locals := 0 }) (PC D cI cG tt [.ref h0] [(h0, .inr (7, [.ref se, .ref hi0, .ref li])), (se, .inr (6, [.ref ob, .ref sc, .ref gr, .int gc, .int gk, .int inf, .int idl, .int gw, .int bl, .int (nI ph)]))] sz) (QI (fun (r : Int32) (u : Unit) => r = bI b) (fun (u : Unit) => [(h0, .inr (7, [.ref se, .ref hi0, .ref li])), (se, .inr (6, [.ref ob, .ref sc, .ref gr, .int gc, .int gk, .int inf, .int idl, .int gw, .int bl, .int (nI ph)]))]) D (va_A [(h0, .inr (7, [.ref se, .ref hi0, .ref li])), (se, .inr (6, [.ref ob, .ref sc, .ref gr, .int gc, .int gk, .int inf, .int idl, .int gw, .int bl, .int (nI ph)]))] sz)) 0 0 (va_A [(h0, .inr (7, [.ref se, .ref hi0, .ref li])), (se, .inr (6, [.ref ob, .ref sc, .ref gr, .int gc, .int gk, .int inf, .int idl, .int gw, .int bl, .int (nI ph)]))] sz) := by
  refine ct_of (y := yX7_sending) (cc := cX7_sending) (maxL := 1) (ret := (some .boolean)) (Qf := QI (fun (r : Int32) (u : Unit) => r = bI b) (fun (u : Unit) => [(h0, .inr (7, [.ref se, .ref hi0, .ref li])), (se, .inr (6, [.ref ob, .ref sc, .ref gr, .int gc, .int gk, .int inf, .int idl, .int gw, .int bl, .int (nI ph)]))]) D) (by decide) rfl ?_
  intro p e s m args below meth c A Q R H locs hR hQ hx hb hml hr hts hown hlocks hin hP hD hE hT hA hS
  have hK := hE.1
  have hl := lv_entry ([.ref h0]) (n := 1) (Nat.le_of_ble_eq_true rfl)
  rw [lg_entry_eq]
  generalize (lg_sl ([.ref h0]) ++ List.replicate (1 - (lg_sl ([.ref h0])).length) Slot.unset).toArray = ls at hl ⊢
  have hl : lv_has ls 1 [(0, .ref h0)] := hl
  refine lv_aload_n hx hb dX7_sending_0 rfl (lv_at hl 0 rfl) ?_
  refine va_get (D := D) (ci := 7) (v := .ref se) (C := RX7) (T := TX7) (N := 3) hx hb hts inX7_sending_X7 hown hK hP 0 rfl rfl 0 (by decide) (hts (.fieldLink RX7 20 "ScrambledLine" "sender" "LScrambledLine$Sender;") (by decide +kernel)) (fun _ h9 => h9) rfl dX7_sending_1 ?_
  refine va_getN (D := D) (ci := 6) (v := .int inf) (C := RX6) (T := TX6) (N := 10) (ref := "ScrambledLine$Sender") hx hb hts inX7_sending_X6 hown hK hP 1 rfl rfl 5 (by decide) (hE.2.1.fX7_78) (fun _ h9 => h9) rfl dX7_sending_4 ?_
  refine lv_to (y := bI b) hb0 ?_
  refine W_q hQ ?_
  exact rt_z () hx hb hr hlocks dX7_sending_7 hS hP hD rfl (bI_nar b)

theorem inX7_level_X7 : ∀ w ∈ u_ws RX7 TX7 3, w ∈ wsX7_level := by decide +kernel
set_option maxHeartbeats 4000000 in
set_option maxRecDepth 100000 in
theorem c_X7_level (l : Launch) (D : va_G) (cI cG : ClassId) (tt : Nat × Nat × Nat) (sz : Nat) (h0 : Nat) (se : Nat) (hi0 : Nat) (li : Nat) (ob : Nat) (sc : Nat) (gr : Nat) (gc : Int32) (gk : Int32) (inf : Int32) (idl : Int32) (gw : Int32) (bl : Int32) (ph : Nat) (hph : ph < 4) : Met l yX7_level wsX7_level ({ frames := 1, cells := 0, slots := 0, locals := 20 }) (PC D cI cG tt [.ref h0] [(h0, .inr (7, [.ref se, .ref hi0, .ref li])), (se, .inr (6, [.ref ob, .ref sc, .ref gr, .int gc, .int gk, .int inf, .int idl, .int gw, .int bl, .int (nI ph)]))] sz) (QI (fun (r : Int32) (u : Unit) => r = lvI ph) (fun (u : Unit) => [(h0, .inr (7, [.ref se, .ref hi0, .ref li])), (se, .inr (6, [.ref ob, .ref sc, .ref gr, .int gc, .int gk, .int inf, .int idl, .int gw, .int bl, .int (nI ph)]))]) D (va_A [(h0, .inr (7, [.ref se, .ref hi0, .ref li])), (se, .inr (6, [.ref ob, .ref sc, .ref gr, .int gc, .int gk, .int inf, .int idl, .int gw, .int bl, .int (nI ph)]))] sz)) 0 0 (va_A [(h0, .inr (7, [.ref se, .ref hi0, .ref li])), (se, .inr (6, [.ref ob, .ref sc, .ref gr, .int gc, .int gk, .int inf, .int idl, .int gw, .int bl, .int (nI ph)]))] sz) := by
  refine ct_of (y := yX7_level) (cc := cX7_level) (maxL := 1) (ret := (some .int)) (Qf := QI (fun (r : Int32) (u : Unit) => r = lvI ph) (fun (u : Unit) => [(h0, .inr (7, [.ref se, .ref hi0, .ref li])), (se, .inr (6, [.ref ob, .ref sc, .ref gr, .int gc, .int gk, .int inf, .int idl, .int gw, .int bl, .int (nI ph)]))]) D) (by decide) rfl ?_
  intro p e s m args below meth c A Q R H locs hR hQ hx hb hml hr hts hown hlocks hin hP hD hE hT hA hS
  have hK := hE.1
  have hl := lv_entry ([.ref h0]) (n := 1) (Nat.le_of_ble_eq_true rfl)
  rw [lg_entry_eq]
  generalize (lg_sl ([.ref h0]) ++ List.replicate (1 - (lg_sl ([.ref h0])).length) Slot.unset).toArray = ls at hl ⊢
  have hl : lv_has ls 1 [(0, .ref h0)] := hl
  refine lv_aload_n hx hb dX7_level_0 rfl (lv_at hl 0 rfl) ?_
  refine va_get (D := D) (ci := 7) (v := .ref se) (C := RX7) (T := TX7) (N := 3) hx hb hts inX7_level_X7 hown hK hP 0 rfl rfl 0 (by decide) (hts (.fieldLink RX7 20 "ScrambledLine" "sender" "LScrambledLine$Sender;") (by decide +kernel)) (fun _ h9 => h9) rfl dX7_level_1 ?_
  refine ca_i (wr := [(h0, .inr (7, [.ref se, .ref hi0, .ref li]))]) (ru_V (As := []) (rest := []) ⟨hx, hb, hml, hown, hts⟩ (c_X6_lineLevel l D cI cG tt H.size se ob sc gr gc gk inf idl gw bl ph (by omega)) (cwV 0 hts gX7_level_X6_lineLevel rfl rfl rfl (by decide +kernel) ⟨by rw [hR]; exact Nat.le_of_ble_eq_true rfl, by rw [hR]; exact Nat.le_of_ble_eq_true rfl⟩) hP hD hE hT hS hA [1] rfl (by decide) (va_recv hK hP (ci := 6) (q0 := 1) rfl rfl) rfl hl.1 rfl (Nat.le_of_ble_eq_true rfl) dX7_level_4 ⟨by rw [hR]; exact Nat.le_of_ble_eq_true rfl, by rw [hR]; exact Nat.le_of_ble_eq_true rfl⟩) hP hD hS hA [1] [0] rfl rfl (by decide) (by decide) (fun r4 u H locs hw hP hD hS => ?_)
  obtain rfl := hw
  have hP : va_P D vwCl [(h0, .inr (7, [.ref se, .ref hi0, .ref li])), (se, .inr (6, [.ref ob, .ref sc, .ref gr, .int gc, .int gk, .int inf, .int idl, .int gw, .int bl, .int (nI ph)]))] H := hP
  have hD : va_D A [(h0, .inr (7, [.ref se, .ref hi0, .ref li])), (se, .inr (6, [.ref ob, .ref sc, .ref gr, .int gc, .int gk, .int inf, .int idl, .int gw, .int bl, .int (nI ph)]))] := hD
  refine W_q hQ ?_
  exact rt_i () hx hb hr hlocks dX7_level_7 hS hP hD rfl

theorem inX7_register_X5 : ∀ w ∈ u_ws RX5 TX5 1, w ∈ wsX7_register := by decide +kernel
theorem inX7_register_X6 : ∀ w ∈ u_ws RX6 TX6 10, w ∈ wsX7_register := by decide +kernel
theorem inX7_register_X7 : ∀ w ∈ u_ws RX7 TX7 3, w ∈ wsX7_register := by decide +kernel
set_option maxHeartbeats 4000000 in
set_option maxRecDepth 100000 in
theorem c_X7_register (l : Launch) (D : va_G) (cI cG : ClassId) (tt : Nat × Nat × Nat) (sz : Nat) (h0 : Nat) (se : Nat) (hi0 : Nat) (li : Nat) (ob : Nat) (sc : Nat) (gr : Nat) (gc : Int32) (gk : Int32) (inf : Int32) (idl : Int32) (gw : Int32) (bl : Int32) (ph : Nat) (reg : Nat) : Met l yX7_register wsX7_register ({ frames := 0, cells := 0, slots := 0, locals := 0 }) (PC D cI cG tt [.ref h0] [(h0, .inr (7, [.ref se, .ref hi0, .ref li])), (se, .inr (6, [.ref ob, .ref sc, .ref gr, .int gc, .int gk, .int inf, .int idl, .int gw, .int bl, .int (nI ph)])), (sc, .inr (5, [.int (nI reg)]))] sz) (QI (fun (r : Int32) (u : Unit) => r = nI reg) (fun (u : Unit) => [(h0, .inr (7, [.ref se, .ref hi0, .ref li])), (se, .inr (6, [.ref ob, .ref sc, .ref gr, .int gc, .int gk, .int inf, .int idl, .int gw, .int bl, .int (nI ph)])), (sc, .inr (5, [.int (nI reg)]))]) D (va_A [(h0, .inr (7, [.ref se, .ref hi0, .ref li])), (se, .inr (6, [.ref ob, .ref sc, .ref gr, .int gc, .int gk, .int inf, .int idl, .int gw, .int bl, .int (nI ph)])), (sc, .inr (5, [.int (nI reg)]))] sz)) 0 0 (va_A [(h0, .inr (7, [.ref se, .ref hi0, .ref li])), (se, .inr (6, [.ref ob, .ref sc, .ref gr, .int gc, .int gk, .int inf, .int idl, .int gw, .int bl, .int (nI ph)])), (sc, .inr (5, [.int (nI reg)]))] sz) := by
  refine ct_of (y := yX7_register) (cc := cX7_register) (maxL := 1) (ret := (some .int)) (Qf := QI (fun (r : Int32) (u : Unit) => r = nI reg) (fun (u : Unit) => [(h0, .inr (7, [.ref se, .ref hi0, .ref li])), (se, .inr (6, [.ref ob, .ref sc, .ref gr, .int gc, .int gk, .int inf, .int idl, .int gw, .int bl, .int (nI ph)])), (sc, .inr (5, [.int (nI reg)]))]) D) (by decide) rfl ?_
  intro p e s m args below meth c A Q R H locs hR hQ hx hb hml hr hts hown hlocks hin hP hD hE hT hA hS
  have hK := hE.1
  have hl := lv_entry ([.ref h0]) (n := 1) (Nat.le_of_ble_eq_true rfl)
  rw [lg_entry_eq]
  generalize (lg_sl ([.ref h0]) ++ List.replicate (1 - (lg_sl ([.ref h0])).length) Slot.unset).toArray = ls at hl ⊢
  have hl : lv_has ls 1 [(0, .ref h0)] := hl
  refine lv_aload_n hx hb dX7_register_0 rfl (lv_at hl 0 rfl) ?_
  refine va_get (D := D) (ci := 7) (v := .ref se) (C := RX7) (T := TX7) (N := 3) hx hb hts inX7_register_X7 hown hK hP 0 rfl rfl 0 (by decide) (hts (.fieldLink RX7 20 "ScrambledLine" "sender" "LScrambledLine$Sender;") (by decide +kernel)) (fun _ h9 => h9) rfl dX7_register_1 ?_
  refine va_getN (D := D) (ci := 6) (v := .ref sc) (C := RX6) (T := TX6) (N := 10) (ref := "ScrambledLine$Sender") hx hb hts inX7_register_X6 hown hK hP 1 rfl rfl 1 (by decide) (hE.2.1.fX7_82) (fun _ h9 => h9) rfl dX7_register_4 ?_
  refine va_getN (D := D) (ci := 5) (v := .int (nI reg)) (C := RX5) (T := TX5) (N := 1) (ref := "ScrambledLine$Scrambler") hx hb hts inX7_register_X5 hown hK hP 2 rfl rfl 0 (by decide) (hE.2.1.fX7_86) (fun _ h9 => h9) rfl dX7_register_7 ?_
  refine W_q hQ ?_
  exact rt_i () hx hb hr hlocks dX7_register_10 hS hP hD rfl

theorem inX7_state_X2 : ∀ w ∈ u_ws RX2 TX2 9, w ∈ wsX7_state := by decide +kernel
theorem inX7_state_X7 : ∀ w ∈ u_ws RX7 TX7 3, w ∈ wsX7_state := by decide +kernel
set_option maxHeartbeats 4000000 in
set_option maxRecDepth 100000 in
theorem c_X7_state (l : Launch) (D : va_G) (cI cG : ClassId) (tt : Nat × Nat × Nat) (sz : Nat) (h0 : Nat) (se : Nat) (hi0 : Nat) (li : Nat) (sl : Nat) (rr : Nat) (ib : Nat) (mo : Int32) (got : Int32) (rk : Int32) (onv : Int32) (qtv : Int32) (lb : Int32) : Met l yX7_state wsX7_state ({ frames := 0, cells := 0, slots := 0, locals := 0 }) (PC D cI cG tt [.ref h0] [(h0, .inr (7, [.ref se, .ref hi0, .ref li])), (li, .inr (2, [.ref sl, .ref rr, .ref ib, .int mo, .int got, .int rk, .int onv, .int qtv, .int lb]))] sz) (QI (fun (r : Int32) (u : Unit) => r = mo) (fun (u : Unit) => [(h0, .inr (7, [.ref se, .ref hi0, .ref li])), (li, .inr (2, [.ref sl, .ref rr, .ref ib, .int mo, .int got, .int rk, .int onv, .int qtv, .int lb]))]) D (va_A [(h0, .inr (7, [.ref se, .ref hi0, .ref li])), (li, .inr (2, [.ref sl, .ref rr, .ref ib, .int mo, .int got, .int rk, .int onv, .int qtv, .int lb]))] sz)) 0 0 (va_A [(h0, .inr (7, [.ref se, .ref hi0, .ref li])), (li, .inr (2, [.ref sl, .ref rr, .ref ib, .int mo, .int got, .int rk, .int onv, .int qtv, .int lb]))] sz) := by
  refine ct_of (y := yX7_state) (cc := cX7_state) (maxL := 1) (ret := (some .int)) (Qf := QI (fun (r : Int32) (u : Unit) => r = mo) (fun (u : Unit) => [(h0, .inr (7, [.ref se, .ref hi0, .ref li])), (li, .inr (2, [.ref sl, .ref rr, .ref ib, .int mo, .int got, .int rk, .int onv, .int qtv, .int lb]))]) D) (by decide) rfl ?_
  intro p e s m args below meth c A Q R H locs hR hQ hx hb hml hr hts hown hlocks hin hP hD hE hT hA hS
  have hK := hE.1
  have hl := lv_entry ([.ref h0]) (n := 1) (Nat.le_of_ble_eq_true rfl)
  rw [lg_entry_eq]
  generalize (lg_sl ([.ref h0]) ++ List.replicate (1 - (lg_sl ([.ref h0])).length) Slot.unset).toArray = ls at hl ⊢
  have hl : lv_has ls 1 [(0, .ref h0)] := hl
  refine lv_aload_n hx hb dX7_state_0 rfl (lv_at hl 0 rfl) ?_
  refine va_get (D := D) (ci := 7) (v := .ref li) (C := RX7) (T := TX7) (N := 3) hx hb hts inX7_state_X7 hown hK hP 0 rfl rfl 2 (by decide) (hts (.fieldLink RX7 36 "ScrambledLine" "listener" "LScrambledLine$Listener;") (by decide +kernel)) (fun _ h9 => h9) rfl dX7_state_1 ?_
  refine va_getN (D := D) (ci := 2) (v := .int mo) (C := RX2) (T := TX2) (N := 9) (ref := "ScrambledLine$Listener") hx hb hts inX7_state_X2 hown hK hP 1 rfl rfl 3 (by decide) (hE.2.1.fX7_91) (fun _ h9 => h9) rfl dX7_state_4 ?_
  refine W_q hQ ?_
  exact rt_i () hx hb hr hlocks dX7_state_7 hS hP hD rfl

set_option maxHeartbeats 4000000 in
set_option maxRecDepth 100000 in
theorem c_X7_count_bad (l : Launch) (D : va_G) (cI cG : ClassId) (tt : Nat × Nat × Nat) (sz : Nat) (h0 : Nat) (se : Nat) (hi0 : Nat) (li : Nat) (x : Int32) (hb0 : okC x = false) : Met l yX7_count wsX7_count ({ frames := 0, cells := 0, slots := 0, locals := 0 }) (PC D cI cG tt [.ref h0, .int x] [(h0, .inr (7, [.ref se, .ref hi0, .ref li]))] sz) (QI (fun (r : Int32) (u : Unit) => r = (-1)) (fun (u : Unit) => [(h0, .inr (7, [.ref se, .ref hi0, .ref li]))]) D (va_A [(h0, .inr (7, [.ref se, .ref hi0, .ref li]))] sz)) 0 0 (va_A [(h0, .inr (7, [.ref se, .ref hi0, .ref li]))] sz) := by
  refine ct_of (y := yX7_count) (cc := cX7_count) (maxL := 2) (ret := (some .int)) (Qf := QI (fun (r : Int32) (u : Unit) => r = (-1)) (fun (u : Unit) => [(h0, .inr (7, [.ref se, .ref hi0, .ref li]))]) D) (by decide) rfl ?_
  intro p e s m args below meth c A Q R H locs hR hQ hx hb hml hr hts hown hlocks hin hP hD hE hT hA hS
  have hK := hE.1
  have hl := lv_entry ([.ref h0, .int x]) (n := 2) (Nat.le_of_ble_eq_true rfl)
  rw [lg_entry_eq]
  generalize (lg_sl ([.ref h0, .int x]) ++ List.replicate (2 - (lg_sl ([.ref h0, .int x])).length) Slot.unset).toArray = ls at hl ⊢
  have hl : lv_has ls 2 [(0, .ref h0), (1, .int x)] := hl
  refine lv_iload_n hx hb dX7_count_0 rfl (lv_at hl 1 rfl) ?_
  refine lv_if_lt (tgt := 10) hx hb dX7_count_1 (by decide) (fun c1 => ?_) (fun c1 => ?_)
  · skip
    
    refine lv_iconst (v := (-1)) hx hb dX7_count_10 rfl ?_
    refine lv_goto (tgt := 26) hx hb dX7_count_11 (by decide) ?_
    refine W_q hQ ?_
    exact rt_i () hx hb hr hlocks dX7_count_26 hS hP hD rfl
  · skip
    
    refine lv_iload_n hx hb dX7_count_4 rfl (lv_at hl 1 rfl) ?_
    refine lv_bipush (v := nI 11) hx hb dX7_count_5 rfl ?_
    refine lv_icmp_lt (tgt := 14) hx hb dX7_count_7 (by decide) (fun c7 => ?_) (fun c7 => ?_)
    · skip
      
      exact absurd (okC_2 c1 c7) (by rw [hb0]; decide)
    · skip
      
      refine lv_iconst (v := (-1)) hx hb dX7_count_10 rfl ?_
      refine lv_goto (tgt := 26) hx hb dX7_count_11 (by decide) ?_
      refine W_q hQ ?_
      exact rt_i () hx hb hr hlocks dX7_count_26 hS hP hD rfl

theorem inX7_count_X1 : ∀ w ∈ u_ws RX1 TX1 4, w ∈ wsX7_count := by decide +kernel
theorem inX7_count_X2 : ∀ w ∈ u_ws RX2 TX2 9, w ∈ wsX7_count := by decide +kernel
theorem inX7_count_X7 : ∀ w ∈ u_ws RX7 TX7 3, w ∈ wsX7_count := by decide +kernel
set_option maxHeartbeats 4000000 in
set_option maxRecDepth 100000 in
theorem c_X7_count (l : Launch) (D : va_G) (cI cG : ClassId) (tt : Nat × Nat × Nat) (sz : Nat) (h0 : Nat) (se : Nat) (hi0 : Nat) (li : Nat) (sl : Nat) (rr : Nat) (ib : Nat) (mo : Int32) (got : Int32) (rk : Int32) (onv : Int32) (qtv : Int32) (lb : Int32) (ca : Nat) (da : Nat) (gsv : Int32) (glv : Int32) (ccf : Nat → Int32) (k : Nat) (hk : k < 11) : Met l yX7_count wsX7_count ({ frames := 0, cells := 0, slots := 0, locals := 0 }) (PC D cI cG tt [.ref h0, .int (nI k)] [(h0, .inr (7, [.ref se, .ref hi0, .ref li])), (li, .inr (2, [.ref sl, .ref rr, .ref ib, .int mo, .int got, .int rk, .int onv, .int qtv, .int lb])), (ib, .inr (1, [.ref ca, .ref da, .int gsv, .int glv])), (ca, .inl (cI, 11, .inl ccf))] sz) (QI (fun (r : Int32) (u : Unit) => r = ccf k) (fun (u : Unit) => [(h0, .inr (7, [.ref se, .ref hi0, .ref li])), (li, .inr (2, [.ref sl, .ref rr, .ref ib, .int mo, .int got, .int rk, .int onv, .int qtv, .int lb])), (ib, .inr (1, [.ref ca, .ref da, .int gsv, .int glv])), (ca, .inl (cI, 11, .inl ccf))]) D (va_A [(h0, .inr (7, [.ref se, .ref hi0, .ref li])), (li, .inr (2, [.ref sl, .ref rr, .ref ib, .int mo, .int got, .int rk, .int onv, .int qtv, .int lb])), (ib, .inr (1, [.ref ca, .ref da, .int gsv, .int glv])), (ca, .inl (cI, 11, .inl ccf))] sz)) 0 0 (va_A [(h0, .inr (7, [.ref se, .ref hi0, .ref li])), (li, .inr (2, [.ref sl, .ref rr, .ref ib, .int mo, .int got, .int rk, .int onv, .int qtv, .int lb])), (ib, .inr (1, [.ref ca, .ref da, .int gsv, .int glv])), (ca, .inl (cI, 11, .inl ccf))] sz) := by
  refine ct_of (y := yX7_count) (cc := cX7_count) (maxL := 2) (ret := (some .int)) (Qf := QI (fun (r : Int32) (u : Unit) => r = ccf k) (fun (u : Unit) => [(h0, .inr (7, [.ref se, .ref hi0, .ref li])), (li, .inr (2, [.ref sl, .ref rr, .ref ib, .int mo, .int got, .int rk, .int onv, .int qtv, .int lb])), (ib, .inr (1, [.ref ca, .ref da, .int gsv, .int glv])), (ca, .inl (cI, 11, .inl ccf))]) D) (by decide) rfl ?_
  intro p e s m args below meth c A Q R H locs hR hQ hx hb hml hr hts hown hlocks hin hP hD hE hT hA hS
  have hK := hE.1
  have hl := lv_entry ([.ref h0, .int (nI k)]) (n := 2) (Nat.le_of_ble_eq_true rfl)
  rw [lg_entry_eq]
  generalize (lg_sl ([.ref h0, .int (nI k)]) ++ List.replicate (2 - (lg_sl ([.ref h0, .int (nI k)])).length) Slot.unset).toArray = ls at hl ⊢
  have hl : lv_has ls 2 [(0, .ref h0), (1, .int (nI k))] := hl
  refine lv_iload_n hx hb dX7_count_0 rfl (lv_at hl 1 rfl) ?_
  refine lv_if_lt (tgt := 10) hx hb dX7_count_1 (by decide) (fun c1 => ?_) (fun c1 => ?_)
  · skip
    have k1 : k < 0 := (nI_ltI (a := k) (b := 0) (by omega) (by omega)).mp c1
    exact False.elim (by omega)
  · skip
    have k1 : ¬ k < 0 := fun zq => c1 ((nI_ltI (a := k) (b := 0) (by omega) (by omega)).mpr zq)
    refine lv_iload_n hx hb dX7_count_4 rfl (lv_at hl 1 rfl) ?_
    refine lv_bipush (v := nI 11) hx hb dX7_count_5 rfl ?_
    refine lv_icmp_lt (tgt := 14) hx hb dX7_count_7 (by decide) (fun c7 => ?_) (fun c7 => ?_)
    · skip
      have k7 : k < 11 := (nI_ltI (a := k) (b := 11) (by omega) (by omega)).mp c7
      refine lv_aload_n hx hb dX7_count_14 rfl (lv_at hl 0 rfl) ?_
      refine va_get (D := D) (ci := 7) (v := .ref li) (C := RX7) (T := TX7) (N := 3) hx hb hts inX7_count_X7 hown hK hP 0 rfl rfl 2 (by decide) (hts (.fieldLink RX7 36 "ScrambledLine" "listener" "LScrambledLine$Listener;") (by decide +kernel)) (fun _ h9 => h9) rfl dX7_count_15 ?_
      refine va_getN (D := D) (ci := 2) (v := .ref ib) (C := RX2) (T := TX2) (N := 9) (ref := "ScrambledLine$Listener") hx hb hts inX7_count_X2 hown hK hP 1 rfl rfl 2 (by decide) (hE.2.1.fX7_94) (fun _ h9 => h9) rfl dX7_count_18 ?_
      refine va_getN (D := D) (ci := 1) (v := .ref ca) (C := RX1) (T := TX1) (N := 4) (ref := "ScrambledLine$Inbox") hx hb hts inX7_count_X1 hown hK hP 2 rfl rfl 0 (by decide) (hE.2.1.fX7_98) (fun _ h9 => h9) rfl dX7_count_21 ?_
      refine lv_iload_n hx hb dX7_count_24 rfl (lv_at hl 1 rfl) ?_
      refine gl_i hx hb hK hP 3 rfl (i := k) (by omega) (by first | decide | omega) dX7_count_25 ?_
      refine W_q hQ ?_
      exact rt_i () hx hb hr hlocks dX7_count_26 hS hP hD rfl
    · skip
      have k7 : ¬ k < 11 := fun zq => c7 ((nI_ltI (a := k) (b := 11) (by omega) (by omega)).mpr zq)
      exact False.elim (by omega)

theorem inX7_source_X1 : ∀ w ∈ u_ws RX1 TX1 4, w ∈ wsX7_source := by decide +kernel
theorem inX7_source_X2 : ∀ w ∈ u_ws RX2 TX2 9, w ∈ wsX7_source := by decide +kernel
theorem inX7_source_X7 : ∀ w ∈ u_ws RX7 TX7 3, w ∈ wsX7_source := by decide +kernel
set_option maxHeartbeats 4000000 in
set_option maxRecDepth 100000 in
theorem c_X7_source (l : Launch) (D : va_G) (cI cG : ClassId) (tt : Nat × Nat × Nat) (sz : Nat) (h0 : Nat) (se : Nat) (hi0 : Nat) (li : Nat) (sl : Nat) (rr : Nat) (ib : Nat) (mo : Int32) (got : Int32) (rk : Int32) (onv : Int32) (qtv : Int32) (lb : Int32) (ca : Nat) (da : Nat) (gsv : Int32) (glv : Int32) : Met l yX7_source wsX7_source ({ frames := 0, cells := 0, slots := 0, locals := 0 }) (PC D cI cG tt [.ref h0] [(h0, .inr (7, [.ref se, .ref hi0, .ref li])), (li, .inr (2, [.ref sl, .ref rr, .ref ib, .int mo, .int got, .int rk, .int onv, .int qtv, .int lb])), (ib, .inr (1, [.ref ca, .ref da, .int gsv, .int glv]))] sz) (QI (fun (r : Int32) (u : Unit) => r = gsv) (fun (u : Unit) => [(h0, .inr (7, [.ref se, .ref hi0, .ref li])), (li, .inr (2, [.ref sl, .ref rr, .ref ib, .int mo, .int got, .int rk, .int onv, .int qtv, .int lb])), (ib, .inr (1, [.ref ca, .ref da, .int gsv, .int glv]))]) D (va_A [(h0, .inr (7, [.ref se, .ref hi0, .ref li])), (li, .inr (2, [.ref sl, .ref rr, .ref ib, .int mo, .int got, .int rk, .int onv, .int qtv, .int lb])), (ib, .inr (1, [.ref ca, .ref da, .int gsv, .int glv]))] sz)) 0 0 (va_A [(h0, .inr (7, [.ref se, .ref hi0, .ref li])), (li, .inr (2, [.ref sl, .ref rr, .ref ib, .int mo, .int got, .int rk, .int onv, .int qtv, .int lb])), (ib, .inr (1, [.ref ca, .ref da, .int gsv, .int glv]))] sz) := by
  refine ct_of (y := yX7_source) (cc := cX7_source) (maxL := 1) (ret := (some .int)) (Qf := QI (fun (r : Int32) (u : Unit) => r = gsv) (fun (u : Unit) => [(h0, .inr (7, [.ref se, .ref hi0, .ref li])), (li, .inr (2, [.ref sl, .ref rr, .ref ib, .int mo, .int got, .int rk, .int onv, .int qtv, .int lb])), (ib, .inr (1, [.ref ca, .ref da, .int gsv, .int glv]))]) D) (by decide) rfl ?_
  intro p e s m args below meth c A Q R H locs hR hQ hx hb hml hr hts hown hlocks hin hP hD hE hT hA hS
  have hK := hE.1
  have hl := lv_entry ([.ref h0]) (n := 1) (Nat.le_of_ble_eq_true rfl)
  rw [lg_entry_eq]
  generalize (lg_sl ([.ref h0]) ++ List.replicate (1 - (lg_sl ([.ref h0])).length) Slot.unset).toArray = ls at hl ⊢
  have hl : lv_has ls 1 [(0, .ref h0)] := hl
  refine lv_aload_n hx hb dX7_source_0 rfl (lv_at hl 0 rfl) ?_
  refine va_get (D := D) (ci := 7) (v := .ref li) (C := RX7) (T := TX7) (N := 3) hx hb hts inX7_source_X7 hown hK hP 0 rfl rfl 2 (by decide) (hts (.fieldLink RX7 36 "ScrambledLine" "listener" "LScrambledLine$Listener;") (by decide +kernel)) (fun _ h9 => h9) rfl dX7_source_1 ?_
  refine va_getN (D := D) (ci := 2) (v := .ref ib) (C := RX2) (T := TX2) (N := 9) (ref := "ScrambledLine$Listener") hx hb hts inX7_source_X2 hown hK hP 1 rfl rfl 2 (by decide) (hE.2.1.fX7_94) (fun _ h9 => h9) rfl dX7_source_4 ?_
  refine va_getN (D := D) (ci := 1) (v := .int gsv) (C := RX1) (T := TX1) (N := 4) (ref := "ScrambledLine$Inbox") hx hb hts inX7_source_X1 hown hK hP 2 rfl rfl 2 (by decide) (hE.2.1.fX7_104) (fun _ h9 => h9) rfl dX7_source_7 ?_
  refine W_q hQ ?_
  exact rt_i () hx hb hr hlocks dX7_source_10 hS hP hD rfl

theorem inX7_length_X1 : ∀ w ∈ u_ws RX1 TX1 4, w ∈ wsX7_length := by decide +kernel
theorem inX7_length_X2 : ∀ w ∈ u_ws RX2 TX2 9, w ∈ wsX7_length := by decide +kernel
theorem inX7_length_X7 : ∀ w ∈ u_ws RX7 TX7 3, w ∈ wsX7_length := by decide +kernel
set_option maxHeartbeats 4000000 in
set_option maxRecDepth 100000 in
theorem c_X7_length (l : Launch) (D : va_G) (cI cG : ClassId) (tt : Nat × Nat × Nat) (sz : Nat) (h0 : Nat) (se : Nat) (hi0 : Nat) (li : Nat) (sl : Nat) (rr : Nat) (ib : Nat) (mo : Int32) (got : Int32) (rk : Int32) (onv : Int32) (qtv : Int32) (lb : Int32) (ca : Nat) (da : Nat) (gsv : Int32) (glv : Int32) : Met l yX7_length wsX7_length ({ frames := 0, cells := 0, slots := 0, locals := 0 }) (PC D cI cG tt [.ref h0] [(h0, .inr (7, [.ref se, .ref hi0, .ref li])), (li, .inr (2, [.ref sl, .ref rr, .ref ib, .int mo, .int got, .int rk, .int onv, .int qtv, .int lb])), (ib, .inr (1, [.ref ca, .ref da, .int gsv, .int glv]))] sz) (QI (fun (r : Int32) (u : Unit) => r = glv) (fun (u : Unit) => [(h0, .inr (7, [.ref se, .ref hi0, .ref li])), (li, .inr (2, [.ref sl, .ref rr, .ref ib, .int mo, .int got, .int rk, .int onv, .int qtv, .int lb])), (ib, .inr (1, [.ref ca, .ref da, .int gsv, .int glv]))]) D (va_A [(h0, .inr (7, [.ref se, .ref hi0, .ref li])), (li, .inr (2, [.ref sl, .ref rr, .ref ib, .int mo, .int got, .int rk, .int onv, .int qtv, .int lb])), (ib, .inr (1, [.ref ca, .ref da, .int gsv, .int glv]))] sz)) 0 0 (va_A [(h0, .inr (7, [.ref se, .ref hi0, .ref li])), (li, .inr (2, [.ref sl, .ref rr, .ref ib, .int mo, .int got, .int rk, .int onv, .int qtv, .int lb])), (ib, .inr (1, [.ref ca, .ref da, .int gsv, .int glv]))] sz) := by
  refine ct_of (y := yX7_length) (cc := cX7_length) (maxL := 1) (ret := (some .int)) (Qf := QI (fun (r : Int32) (u : Unit) => r = glv) (fun (u : Unit) => [(h0, .inr (7, [.ref se, .ref hi0, .ref li])), (li, .inr (2, [.ref sl, .ref rr, .ref ib, .int mo, .int got, .int rk, .int onv, .int qtv, .int lb])), (ib, .inr (1, [.ref ca, .ref da, .int gsv, .int glv]))]) D) (by decide) rfl ?_
  intro p e s m args below meth c A Q R H locs hR hQ hx hb hml hr hts hown hlocks hin hP hD hE hT hA hS
  have hK := hE.1
  have hl := lv_entry ([.ref h0]) (n := 1) (Nat.le_of_ble_eq_true rfl)
  rw [lg_entry_eq]
  generalize (lg_sl ([.ref h0]) ++ List.replicate (1 - (lg_sl ([.ref h0])).length) Slot.unset).toArray = ls at hl ⊢
  have hl : lv_has ls 1 [(0, .ref h0)] := hl
  refine lv_aload_n hx hb dX7_length_0 rfl (lv_at hl 0 rfl) ?_
  refine va_get (D := D) (ci := 7) (v := .ref li) (C := RX7) (T := TX7) (N := 3) hx hb hts inX7_length_X7 hown hK hP 0 rfl rfl 2 (by decide) (hts (.fieldLink RX7 36 "ScrambledLine" "listener" "LScrambledLine$Listener;") (by decide +kernel)) (fun _ h9 => h9) rfl dX7_length_1 ?_
  refine va_getN (D := D) (ci := 2) (v := .ref ib) (C := RX2) (T := TX2) (N := 9) (ref := "ScrambledLine$Listener") hx hb hts inX7_length_X2 hown hK hP 1 rfl rfl 2 (by decide) (hE.2.1.fX7_94) (fun _ h9 => h9) rfl dX7_length_4 ?_
  refine va_getN (D := D) (ci := 1) (v := .int glv) (C := RX1) (T := TX1) (N := 4) (ref := "ScrambledLine$Inbox") hx hb hts inX7_length_X1 hown hK hP 2 rfl rfl 3 (by decide) (hE.2.1.fX7_107) (fun _ h9 => h9) rfl dX7_length_7 ?_
  refine W_q hQ ?_
  exact rt_i () hx hb hr hlocks dX7_length_10 hS hP hD rfl

theorem inX7_byteOf_X2 : ∀ w ∈ u_ws RX2 TX2 9, w ∈ wsX7_byteOf := by decide +kernel
theorem inX7_byteOf_X7 : ∀ w ∈ u_ws RX7 TX7 3, w ∈ wsX7_byteOf := by decide +kernel
set_option maxHeartbeats 4000000 in
set_option maxRecDepth 100000 in
theorem c_X7_byteOf (l : Launch) (D : va_G) (cI cG : ClassId) (tt : Nat × Nat × Nat) (sz : Nat) (h0 : Nat) (se : Nat) (hi0 : Nat) (li : Nat) (sl : Nat) (rr : Nat) (ib : Nat) (mo : Int32) (got : Int32) (rk : Int32) (onv : Int32) (qtv : Int32) (lb : Int32) (ca : Nat) (da : Nat) (gsv : Int32) (any : Bool) (n : Nat) (cgf : Nat → Int32) (i : Int32) (hn : n ≤ 24) : Met l yX7_byteOf wsX7_byteOf ({ frames := 1, cells := 0, slots := 0, locals := 21 }) (PC D cI cG tt [.ref h0, .int i] [(h0, .inr (7, [.ref se, .ref hi0, .ref li])), (li, .inr (2, [.ref sl, .ref rr, .ref ib, .int mo, .int got, .int rk, .int onv, .int qtv, .int lb])), (ib, .inr (1, [.ref ca, .ref da, .int gsv, .int (glI any n)])), (da, .inl (cI, 24, .inl cgf))] sz) (QI (fun (r : Int32) (u : Unit) => r = gbS any n cgf i) (fun (u : Unit) => [(h0, .inr (7, [.ref se, .ref hi0, .ref li])), (li, .inr (2, [.ref sl, .ref rr, .ref ib, .int mo, .int got, .int rk, .int onv, .int qtv, .int lb])), (ib, .inr (1, [.ref ca, .ref da, .int gsv, .int (glI any n)])), (da, .inl (cI, 24, .inl cgf))]) D (va_A [(h0, .inr (7, [.ref se, .ref hi0, .ref li])), (li, .inr (2, [.ref sl, .ref rr, .ref ib, .int mo, .int got, .int rk, .int onv, .int qtv, .int lb])), (ib, .inr (1, [.ref ca, .ref da, .int gsv, .int (glI any n)])), (da, .inl (cI, 24, .inl cgf))] sz)) 0 0 (va_A [(h0, .inr (7, [.ref se, .ref hi0, .ref li])), (li, .inr (2, [.ref sl, .ref rr, .ref ib, .int mo, .int got, .int rk, .int onv, .int qtv, .int lb])), (ib, .inr (1, [.ref ca, .ref da, .int gsv, .int (glI any n)])), (da, .inl (cI, 24, .inl cgf))] sz) := by
  refine ct_of (y := yX7_byteOf) (cc := cX7_byteOf) (maxL := 2) (ret := (some .int)) (Qf := QI (fun (r : Int32) (u : Unit) => r = gbS any n cgf i) (fun (u : Unit) => [(h0, .inr (7, [.ref se, .ref hi0, .ref li])), (li, .inr (2, [.ref sl, .ref rr, .ref ib, .int mo, .int got, .int rk, .int onv, .int qtv, .int lb])), (ib, .inr (1, [.ref ca, .ref da, .int gsv, .int (glI any n)])), (da, .inl (cI, 24, .inl cgf))]) D) (by decide) rfl ?_
  intro p e s m args below meth c A Q R H locs hR hQ hx hb hml hr hts hown hlocks hin hP hD hE hT hA hS
  have hK := hE.1
  have hl := lv_entry ([.ref h0, .int i]) (n := 2) (Nat.le_of_ble_eq_true rfl)
  rw [lg_entry_eq]
  generalize (lg_sl ([.ref h0, .int i]) ++ List.replicate (2 - (lg_sl ([.ref h0, .int i])).length) Slot.unset).toArray = ls at hl ⊢
  have hl : lv_has ls 2 [(0, .ref h0), (1, .int i)] := hl
  refine lv_aload_n hx hb dX7_byteOf_0 rfl (lv_at hl 0 rfl) ?_
  refine va_get (D := D) (ci := 7) (v := .ref li) (C := RX7) (T := TX7) (N := 3) hx hb hts inX7_byteOf_X7 hown hK hP 0 rfl rfl 2 (by decide) (hts (.fieldLink RX7 36 "ScrambledLine" "listener" "LScrambledLine$Listener;") (by decide +kernel)) (fun _ h9 => h9) rfl dX7_byteOf_1 ?_
  refine va_getN (D := D) (ci := 2) (v := .ref ib) (C := RX2) (T := TX2) (N := 9) (ref := "ScrambledLine$Listener") hx hb hts inX7_byteOf_X2 hown hK hP 1 rfl rfl 2 (by decide) (hE.2.1.fX7_94) (fun _ h9 => h9) rfl dX7_byteOf_4 ?_
  refine lv_iload_n hx hb dX7_byteOf_7 rfl (lv_at hl 1 rfl) ?_
  refine ca_i (wr := [(h0, .inr (7, [.ref se, .ref hi0, .ref li])), (li, .inr (2, [.ref sl, .ref rr, .ref ib, .int mo, .int got, .int rk, .int onv, .int qtv, .int lb]))]) (ru_V (As := [.int i]) (rest := []) ⟨hx, hb, hml, hown, hts⟩ (c_X1_goodByte l D cI cG tt H.size ib ca da gsv any n cgf i (by omega)) (cwV 1 hts gX7_byteOf_X1_goodByte rfl rfl rfl (by decide +kernel) ⟨by rw [hR]; exact Nat.le_of_ble_eq_true rfl, by rw [hR]; exact Nat.le_of_ble_eq_true rfl⟩) hP hD hE hT hS hA [2, 3] rfl (by decide) (va_recv hK hP (ci := 1) (q0 := 2) rfl rfl) rfl hl.1 rfl (Nat.le_of_ble_eq_true rfl) dX7_byteOf_8 ⟨by rw [hR]; exact Nat.le_of_ble_eq_true rfl, by rw [hR]; exact Nat.le_of_ble_eq_true rfl⟩) hP hD hS hA [2, 3] [0, 1] rfl rfl (by decide) (by decide) (fun r8 u H locs hw hP hD hS => ?_)
  obtain rfl := hw
  have hP : va_P D vwCl [(h0, .inr (7, [.ref se, .ref hi0, .ref li])), (li, .inr (2, [.ref sl, .ref rr, .ref ib, .int mo, .int got, .int rk, .int onv, .int qtv, .int lb])), (ib, .inr (1, [.ref ca, .ref da, .int gsv, .int (glI any n)])), (da, .inl (cI, 24, .inl cgf))] H := hP
  have hD : va_D A [(h0, .inr (7, [.ref se, .ref hi0, .ref li])), (li, .inr (2, [.ref sl, .ref rr, .ref ib, .int mo, .int got, .int rk, .int onv, .int qtv, .int lb])), (ib, .inr (1, [.ref ca, .ref da, .int gsv, .int (glI any n)])), (da, .inl (cI, 24, .inl cgf))] := hD
  refine W_q hQ ?_
  exact rt_i () hx hb hr hlocks dX7_byteOf_11 hS hP hD rfl

theorem inX7_hit_X7 : ∀ w ∈ u_ws RX7 TX7 3, w ∈ wsX7_hit := by decide +kernel
set_option maxHeartbeats 4000000 in
set_option maxRecDepth 100000 in
theorem c_X7_hit (l : Launch) (D : va_G) (cI cG : ClassId) (tt : Nat × Nat × Nat) (sz : Nat) (h0 : Nat) (se : Nat) (hi0 : Nat) (li : Nat) (hla : Nat) (nx : Nat) (hf : Nat → Int32) (k : Int32) (v : Int32) (hn : nx < 100) : Met l yX7_hit wsX7_hit ({ frames := 1, cells := 0, slots := 0, locals := 22 }) (PC D cI cG tt [.ref h0, .int k, .int v] [(h0, .inr (7, [.ref se, .ref hi0, .ref li])), (hi0, .inr (0, [.ref hla, .int (nI nx)])), (hla, .inl (cI, 100, .inl hf))] sz) (QI (fun (r : Int32) (u : (Nat → Int32)) => match u with | g => r = bI (okH k v) ∧ (g = if okH k v = true then upd hf ((nx + k.toNatClampNeg - 1) % 100) v else hf)) (fun (u : (Nat → Int32)) => match u with | g => [(h0, .inr (7, [.ref se, .ref hi0, .ref li])), (hi0, .inr (0, [.ref hla, .int (nI nx)])), (hla, .inl (cI, 100, .inl g))]) D (va_A [(h0, .inr (7, [.ref se, .ref hi0, .ref li])), (hi0, .inr (0, [.ref hla, .int (nI nx)])), (hla, .inl (cI, 100, .inl hf))] sz)) 0 0 (va_A [(h0, .inr (7, [.ref se, .ref hi0, .ref li])), (hi0, .inr (0, [.ref hla, .int (nI nx)])), (hla, .inl (cI, 100, .inl hf))] sz) := by
  refine ct_of (y := yX7_hit) (cc := cX7_hit) (maxL := 3) (ret := (some .boolean)) (Qf := QI (fun (r : Int32) (u : (Nat → Int32)) => match u with | g => r = bI (okH k v) ∧ (g = if okH k v = true then upd hf ((nx + k.toNatClampNeg - 1) % 100) v else hf)) (fun (u : (Nat → Int32)) => match u with | g => [(h0, .inr (7, [.ref se, .ref hi0, .ref li])), (hi0, .inr (0, [.ref hla, .int (nI nx)])), (hla, .inl (cI, 100, .inl g))]) D) (by decide) rfl ?_
  intro p e s m args below meth c A Q R H locs hR hQ hx hb hml hr hts hown hlocks hin hP hD hE hT hA hS
  have hK := hE.1
  have hl := lv_entry ([.ref h0, .int k, .int v]) (n := 3) (Nat.le_of_ble_eq_true rfl)
  rw [lg_entry_eq]
  generalize (lg_sl ([.ref h0, .int k, .int v]) ++ List.replicate (3 - (lg_sl ([.ref h0, .int k, .int v])).length) Slot.unset).toArray = ls at hl ⊢
  have hl : lv_has ls 3 [(0, .ref h0), (1, .int k), (2, .int v)] := hl
  refine lv_aload_n hx hb dX7_hit_0 rfl (lv_at hl 0 rfl) ?_
  refine va_get (D := D) (ci := 7) (v := .ref hi0) (C := RX7) (T := TX7) (N := 3) hx hb hts inX7_hit_X7 hown hK hP 0 rfl rfl 1 (by decide) (hts (.fieldLink RX7 27 "ScrambledLine" "hits" "LScrambledLine$Hits;") (by decide +kernel)) (fun _ h9 => h9) rfl dX7_hit_1 ?_
  refine lv_iload_n hx hb dX7_hit_4 rfl (lv_at hl 1 rfl) ?_
  refine lv_iload_n hx hb dX7_hit_5 rfl (lv_at hl 2 rfl) ?_
  refine ca_i (wr := [(h0, .inr (7, [.ref se, .ref hi0, .ref li]))]) (ru_V (As := [.int k, .int v]) (rest := []) ⟨hx, hb, hml, hown, hts⟩ (c_X0_place l D cI cG tt H.size hi0 hla hf nx k v (by omega)) (cwV 2 hts gX7_hit_X0_place rfl rfl rfl (by decide +kernel) ⟨by rw [hR]; exact Nat.le_of_ble_eq_true rfl, by rw [hR]; exact Nat.le_of_ble_eq_true rfl⟩) hP hD hE hT hS hA [1, 2] rfl (by decide) (va_recv hK hP (ci := 0) (q0 := 1) rfl rfl) rfl hl.1 rfl (Nat.le_of_ble_eq_true rfl) dX7_hit_6 ⟨by rw [hR]; exact Nat.le_of_ble_eq_true rfl, by rw [hR]; exact Nat.le_of_ble_eq_true rfl⟩) hP hD hS hA [1, 2] [0] rfl rfl (by decide) (by decide) (fun r6 u H locs hw hP hD hS => ?_)
  obtain ⟨g_6, rfl⟩ : ∃ z, z = u := ⟨_, rfl⟩
  obtain ⟨rfl, hg_6⟩ := hw
  have hP : va_P D vwCl [(h0, .inr (7, [.ref se, .ref hi0, .ref li])), (hi0, .inr (0, [.ref hla, .int (nI nx)])), (hla, .inl (cI, 100, .inl g_6))] H := hP
  have hD : va_D A [(h0, .inr (7, [.ref se, .ref hi0, .ref li])), (hi0, .inr (0, [.ref hla, .int (nI nx)])), (hla, .inl (cI, 100, .inl g_6))] := hD
  refine W_q hQ ?_
  exact rt_z g_6 hx hb hr hlocks dX7_hit_9 hS hP hD (⟨rfl, hg_6⟩) (bI_nar (okH k v))

set_option maxHeartbeats 4000000 in
set_option maxRecDepth 100000 in
theorem c_X7_data_bad (l : Launch) (D : va_G) (cI cG : ClassId) (tt : Nat × Nat × Nat) (sz : Nat) (h0 : Nat) (se : Nat) (hi0 : Nat) (li : Nat) (x : Int32) (hb0 : isB x = false) : Met l yX7_data wsX7_data ({ frames := 1, cells := 0, slots := 0, locals := 21 }) (PC D cI cG tt [.ref h0, .int x] [(h0, .inr (7, [.ref se, .ref hi0, .ref li]))] sz) (QI (fun (r : Int32) (u : Unit) => r = (-1)) (fun (u : Unit) => [(h0, .inr (7, [.ref se, .ref hi0, .ref li]))]) D (va_A [(h0, .inr (7, [.ref se, .ref hi0, .ref li]))] sz)) 0 0 (va_A [(h0, .inr (7, [.ref se, .ref hi0, .ref li]))] sz) := by
  refine ct_of (y := yX7_data) (cc := cX7_data) (maxL := 2) (ret := (some .int)) (Qf := QI (fun (r : Int32) (u : Unit) => r = (-1)) (fun (u : Unit) => [(h0, .inr (7, [.ref se, .ref hi0, .ref li]))]) D) (by decide) rfl ?_
  intro p e s m args below meth c A Q R H locs hR hQ hx hb hml hr hts hown hlocks hin hP hD hE hT hA hS
  have hK := hE.1
  have hl := lv_entry ([.ref h0, .int x]) (n := 2) (Nat.le_of_ble_eq_true rfl)
  rw [lg_entry_eq]
  generalize (lg_sl ([.ref h0, .int x]) ++ List.replicate (2 - (lg_sl ([.ref h0, .int x])).length) Slot.unset).toArray = ls at hl ⊢
  have hl : lv_has ls 2 [(0, .ref h0), (1, .int x)] := hl
  refine lv_iload_n hx hb dX7_data_0 rfl (lv_at hl 1 rfl) ?_
  refine ca_i (wr := [(h0, .inr (7, [.ref se, .ref hi0, .ref li]))]) (ru_S (As := [.int x]) (rest := []) ⟨hx, hb, hml, hown, hts⟩ (c_X7_isByte l D cI cG tt H.size x) (cwS 1 hts gX7_data_X7_isByte rfl rfl rfl (by decide +kernel) ⟨by rw [hR]; exact Nat.le_of_ble_eq_true rfl, by rw [hR]; exact Nat.le_of_ble_eq_true rfl⟩) hP hD hE hT hS hA [] rfl (by decide) rfl hl.1 rfl (Nat.le_of_ble_eq_true rfl) dX7_data_1 ⟨by rw [hR]; exact Nat.le_of_ble_eq_true rfl, by rw [hR]; exact Nat.le_of_ble_eq_true rfl⟩) hP hD hS hA [] [0] rfl rfl (by decide) (by decide) (fun r1 u H locs hw hP hD hS => ?_)
  obtain rfl := hw
  have hP : va_P D vwCl [(h0, .inr (7, [.ref se, .ref hi0, .ref li]))] H := hP
  have hD : va_D A [(h0, .inr (7, [.ref se, .ref hi0, .ref li]))] := hD
  refine lv_if_eq (tgt := 21) hx hb dX7_data_4 (by decide) (fun c4 => ?_) (fun c4 => ?_)
  · skip
    have k4 : (isB x) = false := bI_f c4
    refine lv_iconst (v := (-1)) hx hb dX7_data_21 rfl ?_
    refine W_q hQ ?_
    exact rt_i () hx hb hr hlocks dX7_data_22 hS hP hD rfl
  · skip
    have k4 : (isB x) = true := bI_t c4
    exact absurd k4 (by rw [hb0]; decide)

set_option maxHeartbeats 4000000 in
set_option maxRecDepth 100000 in
theorem c_X7_send_bad (l : Launch) (D : va_G) (cI cG : ClassId) (tt : Nat × Nat × Nat) (sz : Nat) (h0 : Nat) (se : Nat) (hi0 : Nat) (li : Nat) (x : Int32) (hb0 : isB x = false) : Met l yX7_send wsX7_send ({ frames := 4, cells := 0, slots := 0, locals := 92 }) (PC D cI cG tt [.ref h0, .int x] [(h0, .inr (7, [.ref se, .ref hi0, .ref li]))] sz) (QI (fun (r : Int32) (u : Unit) => r = (-1)) (fun (u : Unit) => [(h0, .inr (7, [.ref se, .ref hi0, .ref li]))]) D (va_A [(h0, .inr (7, [.ref se, .ref hi0, .ref li]))] sz)) 0 0 (va_A [(h0, .inr (7, [.ref se, .ref hi0, .ref li]))] sz) := by
  refine ct_of (y := yX7_send) (cc := cX7_send) (maxL := 2) (ret := (some .int)) (Qf := QI (fun (r : Int32) (u : Unit) => r = (-1)) (fun (u : Unit) => [(h0, .inr (7, [.ref se, .ref hi0, .ref li]))]) D) (by decide) rfl ?_
  intro p e s m args below meth c A Q R H locs hR hQ hx hb hml hr hts hown hlocks hin hP hD hE hT hA hS
  have hK := hE.1
  have hl := lv_entry ([.ref h0, .int x]) (n := 2) (Nat.le_of_ble_eq_true rfl)
  rw [lg_entry_eq]
  generalize (lg_sl ([.ref h0, .int x]) ++ List.replicate (2 - (lg_sl ([.ref h0, .int x])).length) Slot.unset).toArray = ls at hl ⊢
  have hl : lv_has ls 2 [(0, .ref h0), (1, .int x)] := hl
  refine lv_iload_n hx hb dX7_send_0 rfl (lv_at hl 1 rfl) ?_
  refine ca_i (wr := [(h0, .inr (7, [.ref se, .ref hi0, .ref li]))]) (ru_S (As := [.int x]) (rest := []) ⟨hx, hb, hml, hown, hts⟩ (c_X7_isByte l D cI cG tt H.size x) (cwS 1 hts gX7_send_X7_isByte rfl rfl rfl (by decide +kernel) ⟨by rw [hR]; exact Nat.le_of_ble_eq_true rfl, by rw [hR]; exact Nat.le_of_ble_eq_true rfl⟩) hP hD hE hT hS hA [] rfl (by decide) rfl hl.1 rfl (Nat.le_of_ble_eq_true rfl) dX7_send_1 ⟨by rw [hR]; exact Nat.le_of_ble_eq_true rfl, by rw [hR]; exact Nat.le_of_ble_eq_true rfl⟩) hP hD hS hA [] [0] rfl rfl (by decide) (by decide) (fun r1 u H locs hw hP hD hS => ?_)
  obtain rfl := hw
  have hP : va_P D vwCl [(h0, .inr (7, [.ref se, .ref hi0, .ref li]))] H := hP
  have hD : va_D A [(h0, .inr (7, [.ref se, .ref hi0, .ref li]))] := hD
  refine lv_if_eq (tgt := 21) hx hb dX7_send_4 (by decide) (fun c4 => ?_) (fun c4 => ?_)
  · skip
    have k4 : (isB x) = false := bI_f c4
    refine lv_iconst (v := (-1)) hx hb dX7_send_21 rfl ?_
    refine W_q hQ ?_
    exact rt_i () hx hb hr hlocks dX7_send_22 hS hP hD rfl
  · skip
    have k4 : (isB x) = true := bI_t c4
    exact absurd k4 (by rw [hb0]; decide)

theorem inX7_data_X6 : ∀ w ∈ u_ws RX6 TX6 10, w ∈ wsX7_data := by decide +kernel
theorem inX7_data_X7 : ∀ w ∈ u_ws RX7 TX7 3, w ∈ wsX7_data := by decide +kernel
set_option maxHeartbeats 4000000 in
set_option maxRecDepth 100000 in
theorem c_X7_data_full (l : Launch) (D : va_G) (cI cG : ClassId) (tt : Nat × Nat × Nat) (sz : Nat) (h0 : Nat) (se : Nat) (hi0 : Nat) (li : Nat) (ob : Nat) (sc : Nat) (gr : Nat) (gc : Int32) (gk : Int32) (inf : Int32) (idl : Int32) (gw : Int32) (bl : Int32) (ph : Nat) (ga : Nat) (fa : Nat) (src : Nat) (gl : Nat) (ff : Nat) (ql : Nat) (gf : Nat → Int32) (x : Int32) (hb0 : isB x = true) (hg : gl = 24) : Met l yX7_data wsX7_data ({ frames := 1, cells := 0, slots := 0, locals := 21 }) (PC D cI cG tt [.ref h0, .int x] [(h0, .inr (7, [.ref se, .ref hi0, .ref li])), (se, .inr (6, [.ref ob, .ref sc, .ref gr, .int gc, .int gk, .int inf, .int idl, .int gw, .int bl, .int (nI ph)])), (ob, .inr (3, [.int (nI src), .ref ga, .int (nI gl), .ref fa, .int (nI ff), .int (nI ql)])), (ga, .inl (cI, 24, .inl gf))] sz) (QI (fun (r : Int32) (u : Unit) => r = (-2)) (fun (u : Unit) => [(h0, .inr (7, [.ref se, .ref hi0, .ref li])), (se, .inr (6, [.ref ob, .ref sc, .ref gr, .int gc, .int gk, .int inf, .int idl, .int gw, .int bl, .int (nI ph)])), (ob, .inr (3, [.int (nI src), .ref ga, .int (nI gl), .ref fa, .int (nI ff), .int (nI ql)])), (ga, .inl (cI, 24, .inl gf))]) D (va_A [(h0, .inr (7, [.ref se, .ref hi0, .ref li])), (se, .inr (6, [.ref ob, .ref sc, .ref gr, .int gc, .int gk, .int inf, .int idl, .int gw, .int bl, .int (nI ph)])), (ob, .inr (3, [.int (nI src), .ref ga, .int (nI gl), .ref fa, .int (nI ff), .int (nI ql)])), (ga, .inl (cI, 24, .inl gf))] sz)) 0 0 (va_A [(h0, .inr (7, [.ref se, .ref hi0, .ref li])), (se, .inr (6, [.ref ob, .ref sc, .ref gr, .int gc, .int gk, .int inf, .int idl, .int gw, .int bl, .int (nI ph)])), (ob, .inr (3, [.int (nI src), .ref ga, .int (nI gl), .ref fa, .int (nI ff), .int (nI ql)])), (ga, .inl (cI, 24, .inl gf))] sz) := by
  refine ct_of (y := yX7_data) (cc := cX7_data) (maxL := 2) (ret := (some .int)) (Qf := QI (fun (r : Int32) (u : Unit) => r = (-2)) (fun (u : Unit) => [(h0, .inr (7, [.ref se, .ref hi0, .ref li])), (se, .inr (6, [.ref ob, .ref sc, .ref gr, .int gc, .int gk, .int inf, .int idl, .int gw, .int bl, .int (nI ph)])), (ob, .inr (3, [.int (nI src), .ref ga, .int (nI gl), .ref fa, .int (nI ff), .int (nI ql)])), (ga, .inl (cI, 24, .inl gf))]) D) (by decide) rfl ?_
  intro p e s m args below meth c A Q R H locs hR hQ hx hb hml hr hts hown hlocks hin hP hD hE hT hA hS
  have hK := hE.1
  have hl := lv_entry ([.ref h0, .int x]) (n := 2) (Nat.le_of_ble_eq_true rfl)
  rw [lg_entry_eq]
  generalize (lg_sl ([.ref h0, .int x]) ++ List.replicate (2 - (lg_sl ([.ref h0, .int x])).length) Slot.unset).toArray = ls at hl ⊢
  have hl : lv_has ls 2 [(0, .ref h0), (1, .int x)] := hl
  refine lv_iload_n hx hb dX7_data_0 rfl (lv_at hl 1 rfl) ?_
  refine ca_i (wr := [(h0, .inr (7, [.ref se, .ref hi0, .ref li])), (se, .inr (6, [.ref ob, .ref sc, .ref gr, .int gc, .int gk, .int inf, .int idl, .int gw, .int bl, .int (nI ph)])), (ob, .inr (3, [.int (nI src), .ref ga, .int (nI gl), .ref fa, .int (nI ff), .int (nI ql)])), (ga, .inl (cI, 24, .inl gf))]) (ru_S (As := [.int x]) (rest := []) ⟨hx, hb, hml, hown, hts⟩ (c_X7_isByte l D cI cG tt H.size x) (cwS 1 hts gX7_data_X7_isByte rfl rfl rfl (by decide +kernel) ⟨by rw [hR]; exact Nat.le_of_ble_eq_true rfl, by rw [hR]; exact Nat.le_of_ble_eq_true rfl⟩) hP hD hE hT hS hA [] rfl (by decide) rfl hl.1 rfl (Nat.le_of_ble_eq_true rfl) dX7_data_1 ⟨by rw [hR]; exact Nat.le_of_ble_eq_true rfl, by rw [hR]; exact Nat.le_of_ble_eq_true rfl⟩) hP hD hS hA [] [0, 1, 2, 3] rfl rfl (by decide) (by decide) (fun r1 u H locs hw hP hD hS => ?_)
  obtain rfl := hw
  have hP : va_P D vwCl [(h0, .inr (7, [.ref se, .ref hi0, .ref li])), (se, .inr (6, [.ref ob, .ref sc, .ref gr, .int gc, .int gk, .int inf, .int idl, .int gw, .int bl, .int (nI ph)])), (ob, .inr (3, [.int (nI src), .ref ga, .int (nI gl), .ref fa, .int (nI ff), .int (nI ql)])), (ga, .inl (cI, 24, .inl gf))] H := hP
  have hD : va_D A [(h0, .inr (7, [.ref se, .ref hi0, .ref li])), (se, .inr (6, [.ref ob, .ref sc, .ref gr, .int gc, .int gk, .int inf, .int idl, .int gw, .int bl, .int (nI ph)])), (ob, .inr (3, [.int (nI src), .ref ga, .int (nI gl), .ref fa, .int (nI ff), .int (nI ql)])), (ga, .inl (cI, 24, .inl gf))] := hD
  refine lv_if_eq (tgt := 21) hx hb dX7_data_4 (by decide) (fun c4 => ?_) (fun c4 => ?_)
  · skip
    have k4 : (isB x) = false := bI_f c4
    exact absurd k4 (by rw [hb0]; decide)
  · skip
    have k4 : (isB x) = true := bI_t c4
    refine lv_aload_n hx hb dX7_data_7 rfl (lv_at hl 0 rfl) ?_
    refine va_get (D := D) (ci := 7) (v := .ref se) (C := RX7) (T := TX7) (N := 3) hx hb hts inX7_data_X7 hown hK hP 0 rfl rfl 0 (by decide) (hts (.fieldLink RX7 20 "ScrambledLine" "sender" "LScrambledLine$Sender;") (by decide +kernel)) (fun _ h9 => h9) rfl dX7_data_8 ?_
    refine va_getN (D := D) (ci := 6) (v := .ref ob) (C := RX6) (T := TX6) (N := 10) (ref := "ScrambledLine$Sender") hx hb hts inX7_data_X6 hown hK hP 1 rfl rfl 0 (by decide) (hE.2.1.fX7_44) (fun _ h9 => h9) rfl dX7_data_11 ?_
    refine lv_iload_n hx hb dX7_data_14 rfl (lv_at hl 1 rfl) ?_
    refine ca_i (wr := [(h0, .inr (7, [.ref se, .ref hi0, .ref li])), (se, .inr (6, [.ref ob, .ref sc, .ref gr, .int gc, .int gk, .int inf, .int idl, .int gw, .int bl, .int (nI ph)]))]) (ru_V (As := [.int x]) (rest := []) ⟨hx, hb, hml, hown, hts⟩ (c_X3_give_full l D cI cG tt H.size ob ga fa src gl ff ql gf x (by omega)) (cwV 1 hts gX7_data_X3_give rfl rfl rfl (by decide +kernel) ⟨by rw [hR]; exact Nat.le_of_ble_eq_true rfl, by rw [hR]; exact Nat.le_of_ble_eq_true rfl⟩) hP hD hE hT hS hA [2, 3] rfl (by decide) (va_recv hK hP (ci := 3) (q0 := 2) rfl rfl) rfl hl.1 rfl (Nat.le_of_ble_eq_true rfl) dX7_data_15 ⟨by rw [hR]; exact Nat.le_of_ble_eq_true rfl, by rw [hR]; exact Nat.le_of_ble_eq_true rfl⟩) hP hD hS hA [2, 3] [0, 1] rfl rfl (by decide) (by decide) (fun r15 u H locs hw hP hD hS => ?_)
    obtain rfl := hw
    have hP : va_P D vwCl [(h0, .inr (7, [.ref se, .ref hi0, .ref li])), (se, .inr (6, [.ref ob, .ref sc, .ref gr, .int gc, .int gk, .int inf, .int idl, .int gw, .int bl, .int (nI ph)])), (ob, .inr (3, [.int (nI src), .ref ga, .int (nI gl), .ref fa, .int (nI ff), .int (nI ql)])), (ga, .inl (cI, 24, .inl gf))] H := hP
    have hD : va_D A [(h0, .inr (7, [.ref se, .ref hi0, .ref li])), (se, .inr (6, [.ref ob, .ref sc, .ref gr, .int gc, .int gk, .int inf, .int idl, .int gw, .int bl, .int (nI ph)])), (ob, .inr (3, [.int (nI src), .ref ga, .int (nI gl), .ref fa, .int (nI ff), .int (nI ql)])), (ga, .inl (cI, 24, .inl gf))] := hD
    refine lv_goto (tgt := 22) hx hb dX7_data_18 (by decide) ?_
    refine W_q hQ ?_
    exact rt_i () hx hb hr hlocks dX7_data_22 hS hP hD rfl

set_option maxHeartbeats 4000000 in
set_option maxRecDepth 100000 in
theorem c_X7_data (l : Launch) (D : va_G) (cI cG : ClassId) (tt : Nat × Nat × Nat) (sz : Nat) (h0 : Nat) (se : Nat) (hi0 : Nat) (li : Nat) (ob : Nat) (sc : Nat) (gr : Nat) (gc : Int32) (gk : Int32) (inf : Int32) (idl : Int32) (gw : Int32) (bl : Int32) (ph : Nat) (ga : Nat) (fa : Nat) (src : Nat) (gl : Nat) (ff : Nat) (ql : Nat) (gf : Nat → Int32) (x : Int32) (hb0 : isB x = true) (hg : gl < 24) : Met l yX7_data wsX7_data ({ frames := 1, cells := 0, slots := 0, locals := 21 }) (PC D cI cG tt [.ref h0, .int x] [(h0, .inr (7, [.ref se, .ref hi0, .ref li])), (se, .inr (6, [.ref ob, .ref sc, .ref gr, .int gc, .int gk, .int inf, .int idl, .int gw, .int bl, .int (nI ph)])), (ob, .inr (3, [.int (nI src), .ref ga, .int (nI gl), .ref fa, .int (nI ff), .int (nI ql)])), (ga, .inl (cI, 24, .inl gf))] sz) (QI (fun (r : Int32) (u : Unit) => r = nI (gl + 1)) (fun (u : Unit) => [(h0, .inr (7, [.ref se, .ref hi0, .ref li])), (se, .inr (6, [.ref ob, .ref sc, .ref gr, .int gc, .int gk, .int inf, .int idl, .int gw, .int bl, .int (nI ph)])), (ob, .inr (3, [.int (nI src), .ref ga, .int (nI (gl + 1)), .ref fa, .int (nI ff), .int (nI ql)])), (ga, .inl (cI, 24, .inl (upd gf gl x)))]) D (va_A [(h0, .inr (7, [.ref se, .ref hi0, .ref li])), (se, .inr (6, [.ref ob, .ref sc, .ref gr, .int gc, .int gk, .int inf, .int idl, .int gw, .int bl, .int (nI ph)])), (ob, .inr (3, [.int (nI src), .ref ga, .int (nI gl), .ref fa, .int (nI ff), .int (nI ql)])), (ga, .inl (cI, 24, .inl gf))] sz)) 0 0 (va_A [(h0, .inr (7, [.ref se, .ref hi0, .ref li])), (se, .inr (6, [.ref ob, .ref sc, .ref gr, .int gc, .int gk, .int inf, .int idl, .int gw, .int bl, .int (nI ph)])), (ob, .inr (3, [.int (nI src), .ref ga, .int (nI gl), .ref fa, .int (nI ff), .int (nI ql)])), (ga, .inl (cI, 24, .inl gf))] sz) := by
  refine ct_of (y := yX7_data) (cc := cX7_data) (maxL := 2) (ret := (some .int)) (Qf := QI (fun (r : Int32) (u : Unit) => r = nI (gl + 1)) (fun (u : Unit) => [(h0, .inr (7, [.ref se, .ref hi0, .ref li])), (se, .inr (6, [.ref ob, .ref sc, .ref gr, .int gc, .int gk, .int inf, .int idl, .int gw, .int bl, .int (nI ph)])), (ob, .inr (3, [.int (nI src), .ref ga, .int (nI (gl + 1)), .ref fa, .int (nI ff), .int (nI ql)])), (ga, .inl (cI, 24, .inl (upd gf gl x)))]) D) (by decide) rfl ?_
  intro p e s m args below meth c A Q R H locs hR hQ hx hb hml hr hts hown hlocks hin hP hD hE hT hA hS
  have hK := hE.1
  have hl := lv_entry ([.ref h0, .int x]) (n := 2) (Nat.le_of_ble_eq_true rfl)
  rw [lg_entry_eq]
  generalize (lg_sl ([.ref h0, .int x]) ++ List.replicate (2 - (lg_sl ([.ref h0, .int x])).length) Slot.unset).toArray = ls at hl ⊢
  have hl : lv_has ls 2 [(0, .ref h0), (1, .int x)] := hl
  refine lv_iload_n hx hb dX7_data_0 rfl (lv_at hl 1 rfl) ?_
  refine ca_i (wr := [(h0, .inr (7, [.ref se, .ref hi0, .ref li])), (se, .inr (6, [.ref ob, .ref sc, .ref gr, .int gc, .int gk, .int inf, .int idl, .int gw, .int bl, .int (nI ph)])), (ob, .inr (3, [.int (nI src), .ref ga, .int (nI gl), .ref fa, .int (nI ff), .int (nI ql)])), (ga, .inl (cI, 24, .inl gf))]) (ru_S (As := [.int x]) (rest := []) ⟨hx, hb, hml, hown, hts⟩ (c_X7_isByte l D cI cG tt H.size x) (cwS 1 hts gX7_data_X7_isByte rfl rfl rfl (by decide +kernel) ⟨by rw [hR]; exact Nat.le_of_ble_eq_true rfl, by rw [hR]; exact Nat.le_of_ble_eq_true rfl⟩) hP hD hE hT hS hA [] rfl (by decide) rfl hl.1 rfl (Nat.le_of_ble_eq_true rfl) dX7_data_1 ⟨by rw [hR]; exact Nat.le_of_ble_eq_true rfl, by rw [hR]; exact Nat.le_of_ble_eq_true rfl⟩) hP hD hS hA [] [0, 1, 2, 3] rfl rfl (by decide) (by decide) (fun r1 u H locs hw hP hD hS => ?_)
  obtain rfl := hw
  have hP : va_P D vwCl [(h0, .inr (7, [.ref se, .ref hi0, .ref li])), (se, .inr (6, [.ref ob, .ref sc, .ref gr, .int gc, .int gk, .int inf, .int idl, .int gw, .int bl, .int (nI ph)])), (ob, .inr (3, [.int (nI src), .ref ga, .int (nI gl), .ref fa, .int (nI ff), .int (nI ql)])), (ga, .inl (cI, 24, .inl gf))] H := hP
  have hD : va_D A [(h0, .inr (7, [.ref se, .ref hi0, .ref li])), (se, .inr (6, [.ref ob, .ref sc, .ref gr, .int gc, .int gk, .int inf, .int idl, .int gw, .int bl, .int (nI ph)])), (ob, .inr (3, [.int (nI src), .ref ga, .int (nI gl), .ref fa, .int (nI ff), .int (nI ql)])), (ga, .inl (cI, 24, .inl gf))] := hD
  refine lv_if_eq (tgt := 21) hx hb dX7_data_4 (by decide) (fun c4 => ?_) (fun c4 => ?_)
  · skip
    have k4 : (isB x) = false := bI_f c4
    exact absurd k4 (by rw [hb0]; decide)
  · skip
    have k4 : (isB x) = true := bI_t c4
    refine lv_aload_n hx hb dX7_data_7 rfl (lv_at hl 0 rfl) ?_
    refine va_get (D := D) (ci := 7) (v := .ref se) (C := RX7) (T := TX7) (N := 3) hx hb hts inX7_data_X7 hown hK hP 0 rfl rfl 0 (by decide) (hts (.fieldLink RX7 20 "ScrambledLine" "sender" "LScrambledLine$Sender;") (by decide +kernel)) (fun _ h9 => h9) rfl dX7_data_8 ?_
    refine va_getN (D := D) (ci := 6) (v := .ref ob) (C := RX6) (T := TX6) (N := 10) (ref := "ScrambledLine$Sender") hx hb hts inX7_data_X6 hown hK hP 1 rfl rfl 0 (by decide) (hE.2.1.fX7_44) (fun _ h9 => h9) rfl dX7_data_11 ?_
    refine lv_iload_n hx hb dX7_data_14 rfl (lv_at hl 1 rfl) ?_
    refine ca_i (wr := [(h0, .inr (7, [.ref se, .ref hi0, .ref li])), (se, .inr (6, [.ref ob, .ref sc, .ref gr, .int gc, .int gk, .int inf, .int idl, .int gw, .int bl, .int (nI ph)]))]) (ru_V (As := [.int x]) (rest := []) ⟨hx, hb, hml, hown, hts⟩ (c_X3_give l D cI cG tt H.size ob ga fa src gl ff ql gf x (by omega)) (cwV 1 hts gX7_data_X3_give rfl rfl rfl (by decide +kernel) ⟨by rw [hR]; exact Nat.le_of_ble_eq_true rfl, by rw [hR]; exact Nat.le_of_ble_eq_true rfl⟩) hP hD hE hT hS hA [2, 3] rfl (by decide) (va_recv hK hP (ci := 3) (q0 := 2) rfl rfl) rfl hl.1 rfl (Nat.le_of_ble_eq_true rfl) dX7_data_15 ⟨by rw [hR]; exact Nat.le_of_ble_eq_true rfl, by rw [hR]; exact Nat.le_of_ble_eq_true rfl⟩) hP hD hS hA [2, 3] [0, 1] rfl rfl (by decide) (by decide) (fun r15 u H locs hw hP hD hS => ?_)
    obtain rfl := hw
    have hP : va_P D vwCl [(h0, .inr (7, [.ref se, .ref hi0, .ref li])), (se, .inr (6, [.ref ob, .ref sc, .ref gr, .int gc, .int gk, .int inf, .int idl, .int gw, .int bl, .int (nI ph)])), (ob, .inr (3, [.int (nI src), .ref ga, .int (nI (gl + 1)), .ref fa, .int (nI ff), .int (nI ql)])), (ga, .inl (cI, 24, .inl (upd gf gl x)))] H := hP
    have hD : va_D A [(h0, .inr (7, [.ref se, .ref hi0, .ref li])), (se, .inr (6, [.ref ob, .ref sc, .ref gr, .int gc, .int gk, .int inf, .int idl, .int gw, .int bl, .int (nI ph)])), (ob, .inr (3, [.int (nI src), .ref ga, .int (nI (gl + 1)), .ref fa, .int (nI ff), .int (nI ql)])), (ga, .inl (cI, 24, .inl (upd gf gl x)))] := hD
    refine lv_goto (tgt := 22) hx hb dX7_data_18 (by decide) ?_
    refine W_q hQ ?_
    exact rt_i () hx hb hr hlocks dX7_data_22 hS hP hD rfl

theorem inX7_send_X6 : ∀ w ∈ u_ws RX6 TX6 10, w ∈ wsX7_send := by decide +kernel
theorem inX7_send_X7 : ∀ w ∈ u_ws RX7 TX7 3, w ∈ wsX7_send := by decide +kernel
set_option maxHeartbeats 4000000 in
set_option maxRecDepth 100000 in
theorem c_X7_send_full (l : Launch) (D : va_G) (cI cG : ClassId) (tt : Nat × Nat × Nat) (sz : Nat) (h0 : Nat) (se : Nat) (hi0 : Nat) (li : Nat) (ob : Nat) (sc : Nat) (gr : Nat) (gc : Int32) (gk : Int32) (inf : Int32) (idl : Int32) (gw : Int32) (bl : Int32) (ph : Nat) (ga : Nat) (fa : Nat) (src : Nat) (gl : Nat) (ff : Nat) (ql : Nat) (x : Int32) (hb0 : isB x = true) (hg : ql = 4) : Met l yX7_send wsX7_send ({ frames := 1, cells := 0, slots := 0, locals := 21 }) (PC D cI cG tt [.ref h0, .int x] [(h0, .inr (7, [.ref se, .ref hi0, .ref li])), (se, .inr (6, [.ref ob, .ref sc, .ref gr, .int gc, .int gk, .int inf, .int idl, .int gw, .int bl, .int (nI ph)])), (ob, .inr (3, [.int (nI src), .ref ga, .int (nI gl), .ref fa, .int (nI ff), .int (nI ql)]))] sz) (QI (fun (r : Int32) (u : Unit) => r = (-2)) (fun (u : Unit) => [(h0, .inr (7, [.ref se, .ref hi0, .ref li])), (se, .inr (6, [.ref ob, .ref sc, .ref gr, .int gc, .int gk, .int inf, .int idl, .int gw, .int bl, .int (nI ph)])), (ob, .inr (3, [.int (nI src), .ref ga, .int (nI gl), .ref fa, .int (nI ff), .int (nI ql)]))]) D (va_A [(h0, .inr (7, [.ref se, .ref hi0, .ref li])), (se, .inr (6, [.ref ob, .ref sc, .ref gr, .int gc, .int gk, .int inf, .int idl, .int gw, .int bl, .int (nI ph)])), (ob, .inr (3, [.int (nI src), .ref ga, .int (nI gl), .ref fa, .int (nI ff), .int (nI ql)]))] sz)) 0 0 (va_A [(h0, .inr (7, [.ref se, .ref hi0, .ref li])), (se, .inr (6, [.ref ob, .ref sc, .ref gr, .int gc, .int gk, .int inf, .int idl, .int gw, .int bl, .int (nI ph)])), (ob, .inr (3, [.int (nI src), .ref ga, .int (nI gl), .ref fa, .int (nI ff), .int (nI ql)]))] sz) := by
  refine ct_of (y := yX7_send) (cc := cX7_send) (maxL := 2) (ret := (some .int)) (Qf := QI (fun (r : Int32) (u : Unit) => r = (-2)) (fun (u : Unit) => [(h0, .inr (7, [.ref se, .ref hi0, .ref li])), (se, .inr (6, [.ref ob, .ref sc, .ref gr, .int gc, .int gk, .int inf, .int idl, .int gw, .int bl, .int (nI ph)])), (ob, .inr (3, [.int (nI src), .ref ga, .int (nI gl), .ref fa, .int (nI ff), .int (nI ql)]))]) D) (by decide) rfl ?_
  intro p e s m args below meth c A Q R H locs hR hQ hx hb hml hr hts hown hlocks hin hP hD hE hT hA hS
  have hK := hE.1
  have hl := lv_entry ([.ref h0, .int x]) (n := 2) (Nat.le_of_ble_eq_true rfl)
  rw [lg_entry_eq]
  generalize (lg_sl ([.ref h0, .int x]) ++ List.replicate (2 - (lg_sl ([.ref h0, .int x])).length) Slot.unset).toArray = ls at hl ⊢
  have hl : lv_has ls 2 [(0, .ref h0), (1, .int x)] := hl
  refine lv_iload_n hx hb dX7_send_0 rfl (lv_at hl 1 rfl) ?_
  refine ca_i (wr := [(h0, .inr (7, [.ref se, .ref hi0, .ref li])), (se, .inr (6, [.ref ob, .ref sc, .ref gr, .int gc, .int gk, .int inf, .int idl, .int gw, .int bl, .int (nI ph)])), (ob, .inr (3, [.int (nI src), .ref ga, .int (nI gl), .ref fa, .int (nI ff), .int (nI ql)]))]) (ru_S (As := [.int x]) (rest := []) ⟨hx, hb, hml, hown, hts⟩ (c_X7_isByte l D cI cG tt H.size x) (cwS 1 hts gX7_send_X7_isByte rfl rfl rfl (by decide +kernel) ⟨by rw [hR]; exact Nat.le_of_ble_eq_true rfl, by rw [hR]; exact Nat.le_of_ble_eq_true rfl⟩) hP hD hE hT hS hA [] rfl (by decide) rfl hl.1 rfl (Nat.le_of_ble_eq_true rfl) dX7_send_1 ⟨by rw [hR]; exact Nat.le_of_ble_eq_true rfl, by rw [hR]; exact Nat.le_of_ble_eq_true rfl⟩) hP hD hS hA [] [0, 1, 2] rfl rfl (by decide) (by decide) (fun r1 u H locs hw hP hD hS => ?_)
  obtain rfl := hw
  have hP : va_P D vwCl [(h0, .inr (7, [.ref se, .ref hi0, .ref li])), (se, .inr (6, [.ref ob, .ref sc, .ref gr, .int gc, .int gk, .int inf, .int idl, .int gw, .int bl, .int (nI ph)])), (ob, .inr (3, [.int (nI src), .ref ga, .int (nI gl), .ref fa, .int (nI ff), .int (nI ql)]))] H := hP
  have hD : va_D A [(h0, .inr (7, [.ref se, .ref hi0, .ref li])), (se, .inr (6, [.ref ob, .ref sc, .ref gr, .int gc, .int gk, .int inf, .int idl, .int gw, .int bl, .int (nI ph)])), (ob, .inr (3, [.int (nI src), .ref ga, .int (nI gl), .ref fa, .int (nI ff), .int (nI ql)]))] := hD
  refine lv_if_eq (tgt := 21) hx hb dX7_send_4 (by decide) (fun c4 => ?_) (fun c4 => ?_)
  · skip
    have k4 : (isB x) = false := bI_f c4
    exact absurd k4 (by rw [hb0]; decide)
  · skip
    have k4 : (isB x) = true := bI_t c4
    refine lv_aload_n hx hb dX7_send_7 rfl (lv_at hl 0 rfl) ?_
    refine va_get (D := D) (ci := 7) (v := .ref se) (C := RX7) (T := TX7) (N := 3) hx hb hts inX7_send_X7 hown hK hP 0 rfl rfl 0 (by decide) (hts (.fieldLink RX7 20 "ScrambledLine" "sender" "LScrambledLine$Sender;") (by decide +kernel)) (fun _ h9 => h9) rfl dX7_send_8 ?_
    refine va_getN (D := D) (ci := 6) (v := .ref ob) (C := RX6) (T := TX6) (N := 10) (ref := "ScrambledLine$Sender") hx hb hts inX7_send_X6 hown hK hP 1 rfl rfl 0 (by decide) (hE.2.1.fX7_44) (fun _ h9 => h9) rfl dX7_send_11 ?_
    refine lv_iload_n hx hb dX7_send_14 rfl (lv_at hl 1 rfl) ?_
    refine ca_i (wr := [(h0, .inr (7, [.ref se, .ref hi0, .ref li])), (se, .inr (6, [.ref ob, .ref sc, .ref gr, .int gc, .int gk, .int inf, .int idl, .int gw, .int bl, .int (nI ph)]))]) (ru_V (As := [.int x]) (rest := []) ⟨hx, hb, hml, hown, hts⟩ (c_X3_enqueue_full l D cI cG tt H.size ob ga fa src gl ff ql (fun _ => 0) x (by omega)) (cwV 1 hts gX7_send_X3_enqueue rfl rfl rfl (by decide +kernel) ⟨by rw [hR]; exact Nat.le_of_ble_eq_true rfl, by rw [hR]; exact Nat.le_of_ble_eq_true rfl⟩) hP hD hE hT hS hA [2] rfl (by decide) (va_recv hK hP (ci := 3) (q0 := 2) rfl rfl) rfl hl.1 rfl (Nat.le_of_ble_eq_true rfl) dX7_send_15 ⟨by rw [hR]; exact Nat.le_of_ble_eq_true rfl, by rw [hR]; exact Nat.le_of_ble_eq_true rfl⟩) hP hD hS hA [2] [0, 1] rfl rfl (by decide) (by decide) (fun r15 u H locs hw hP hD hS => ?_)
    obtain rfl := hw
    have hP : va_P D vwCl [(h0, .inr (7, [.ref se, .ref hi0, .ref li])), (se, .inr (6, [.ref ob, .ref sc, .ref gr, .int gc, .int gk, .int inf, .int idl, .int gw, .int bl, .int (nI ph)])), (ob, .inr (3, [.int (nI src), .ref ga, .int (nI gl), .ref fa, .int (nI ff), .int (nI ql)]))] H := hP
    have hD : va_D A [(h0, .inr (7, [.ref se, .ref hi0, .ref li])), (se, .inr (6, [.ref ob, .ref sc, .ref gr, .int gc, .int gk, .int inf, .int idl, .int gw, .int bl, .int (nI ph)])), (ob, .inr (3, [.int (nI src), .ref ga, .int (nI gl), .ref fa, .int (nI ff), .int (nI ql)]))] := hD
    refine lv_goto (tgt := 22) hx hb dX7_send_18 (by decide) ?_
    refine W_q hQ ?_
    exact rt_i () hx hb hr hlocks dX7_send_22 hS hP hD rfl

set_option maxHeartbeats 4000000 in
set_option maxRecDepth 100000 in
theorem c_X7_send (l : Launch) (D : va_G) (cI cG : ClassId) (tt : Nat × Nat × Nat) (sz : Nat) (h0 : Nat) (se : Nat) (hi0 : Nat) (li : Nat) (ob : Nat) (sc : Nat) (gr : Nat) (gc : Int32) (gk : Int32) (inf : Int32) (idl : Int32) (gw : Int32) (bl : Int32) (ph : Nat) (ga : Nat) (fa : Nat) (src : Nat) (gl : Nat) (ff : Nat) (ql : Nat) (r0 : Nat) (r1 : Nat) (r2 : Nat) (r3 : Nat) (gf : Nat → Int32) (Rw : Nat → Nat → Int32) (t : Nat) (gd : Nat → Nat) (q : Nat → Nat) (hb0 : isB (nI t) = true) (hq : ql < 4) (hff : ff < 4) (hg : gl ≤ 24) (hgd : ∀ j, j < gl → gf j = nI (gd j) ∧ gd j < 256) (hQ0 : QRel src ff ql q Rw) (hqn : ∀ j, j < ql → q (32 * j + 1) ≤ 24) : Met l yX7_send wsX7_send ({ frames := 4, cells := 0, slots := 0, locals := 92 }) (PC D cI cG tt [.ref h0, .int (nI t)] [(h0, .inr (7, [.ref se, .ref hi0, .ref li])), (se, .inr (6, [.ref ob, .ref sc, .ref gr, .int gc, .int gk, .int inf, .int idl, .int gw, .int bl, .int (nI ph)])), (ob, .inr (3, [.int (nI src), .ref ga, .int (nI gl), .ref fa, .int (nI ff), .int (nI ql)])), (ga, .inl (cI, 24, .inl gf)), (fa, .inl (cG, 4, .inr (.inr (.inr (.inr (gq4 r0 r1 r2 r3)))))), (r0, .inl (cI, 31, .inl (Rw 0))), (r1, .inl (cI, 31, .inl (Rw 1))), (r2, .inl (cI, 31, .inl (Rw 2))), (r3, .inl (cI, 31, .inl (Rw 3)))] sz) (QI (fun (r : Int32) (u : (Nat → Nat → Int32)) => match u with | Rp => r = nI (ql + 1) ∧ QRel src ff (ql + 1) (qput q ql t gl gd) Rp) (fun (u : (Nat → Nat → Int32)) => match u with | Rp => [(h0, .inr (7, [.ref se, .ref hi0, .ref li])), (se, .inr (6, [.ref ob, .ref sc, .ref gr, .int gc, .int gk, .int inf, .int idl, .int gw, .int bl, .int (nI ph)])), (ob, .inr (3, [.int (nI src), .ref ga, .int (nI 0), .ref fa, .int (nI ff), .int (nI (ql + 1))])), (ga, .inl (cI, 24, .inl gf)), (fa, .inl (cG, 4, .inr (.inr (.inr (.inr (gq4 r0 r1 r2 r3)))))), (r0, .inl (cI, 31, .inl (Rp 0))), (r1, .inl (cI, 31, .inl (Rp 1))), (r2, .inl (cI, 31, .inl (Rp 2))), (r3, .inl (cI, 31, .inl (Rp 3)))]) D (va_A [(h0, .inr (7, [.ref se, .ref hi0, .ref li])), (se, .inr (6, [.ref ob, .ref sc, .ref gr, .int gc, .int gk, .int inf, .int idl, .int gw, .int bl, .int (nI ph)])), (ob, .inr (3, [.int (nI src), .ref ga, .int (nI gl), .ref fa, .int (nI ff), .int (nI ql)])), (ga, .inl (cI, 24, .inl gf)), (fa, .inl (cG, 4, .inr (.inr (.inr (.inr (gq4 r0 r1 r2 r3)))))), (r0, .inl (cI, 31, .inl (Rw 0))), (r1, .inl (cI, 31, .inl (Rw 1))), (r2, .inl (cI, 31, .inl (Rw 2))), (r3, .inl (cI, 31, .inl (Rw 3)))] sz)) 0 0 (va_A [(h0, .inr (7, [.ref se, .ref hi0, .ref li])), (se, .inr (6, [.ref ob, .ref sc, .ref gr, .int gc, .int gk, .int inf, .int idl, .int gw, .int bl, .int (nI ph)])), (ob, .inr (3, [.int (nI src), .ref ga, .int (nI gl), .ref fa, .int (nI ff), .int (nI ql)])), (ga, .inl (cI, 24, .inl gf)), (fa, .inl (cG, 4, .inr (.inr (.inr (.inr (gq4 r0 r1 r2 r3)))))), (r0, .inl (cI, 31, .inl (Rw 0))), (r1, .inl (cI, 31, .inl (Rw 1))), (r2, .inl (cI, 31, .inl (Rw 2))), (r3, .inl (cI, 31, .inl (Rw 3)))] sz) := by
  refine ct_of (y := yX7_send) (cc := cX7_send) (maxL := 2) (ret := (some .int)) (Qf := QI (fun (r : Int32) (u : (Nat → Nat → Int32)) => match u with | Rp => r = nI (ql + 1) ∧ QRel src ff (ql + 1) (qput q ql t gl gd) Rp) (fun (u : (Nat → Nat → Int32)) => match u with | Rp => [(h0, .inr (7, [.ref se, .ref hi0, .ref li])), (se, .inr (6, [.ref ob, .ref sc, .ref gr, .int gc, .int gk, .int inf, .int idl, .int gw, .int bl, .int (nI ph)])), (ob, .inr (3, [.int (nI src), .ref ga, .int (nI 0), .ref fa, .int (nI ff), .int (nI (ql + 1))])), (ga, .inl (cI, 24, .inl gf)), (fa, .inl (cG, 4, .inr (.inr (.inr (.inr (gq4 r0 r1 r2 r3)))))), (r0, .inl (cI, 31, .inl (Rp 0))), (r1, .inl (cI, 31, .inl (Rp 1))), (r2, .inl (cI, 31, .inl (Rp 2))), (r3, .inl (cI, 31, .inl (Rp 3)))]) D) (by decide) rfl ?_
  intro p e s m args below meth c A Q R H locs hR hQ hx hb hml hr hts hown hlocks hin hP hD hE hT hA hS
  have hK := hE.1
  have hl := lv_entry ([.ref h0, .int (nI t)]) (n := 2) (Nat.le_of_ble_eq_true rfl)
  rw [lg_entry_eq]
  generalize (lg_sl ([.ref h0, .int (nI t)]) ++ List.replicate (2 - (lg_sl ([.ref h0, .int (nI t)])).length) Slot.unset).toArray = ls at hl ⊢
  have hl : lv_has ls 2 [(0, .ref h0), (1, .int (nI t))] := hl
  refine lv_iload_n hx hb dX7_send_0 rfl (lv_at hl 1 rfl) ?_
  refine ca_i (wr := [(h0, .inr (7, [.ref se, .ref hi0, .ref li])), (se, .inr (6, [.ref ob, .ref sc, .ref gr, .int gc, .int gk, .int inf, .int idl, .int gw, .int bl, .int (nI ph)])), (ob, .inr (3, [.int (nI src), .ref ga, .int (nI gl), .ref fa, .int (nI ff), .int (nI ql)])), (ga, .inl (cI, 24, .inl gf)), (fa, .inl (cG, 4, .inr (.inr (.inr (.inr (gq4 r0 r1 r2 r3)))))), (r0, .inl (cI, 31, .inl (Rw 0))), (r1, .inl (cI, 31, .inl (Rw 1))), (r2, .inl (cI, 31, .inl (Rw 2))), (r3, .inl (cI, 31, .inl (Rw 3)))]) (ru_S (As := [.int (nI t)]) (rest := []) ⟨hx, hb, hml, hown, hts⟩ (c_X7_isByte l D cI cG tt H.size (nI t)) (cwS 1 hts gX7_send_X7_isByte rfl rfl rfl (by decide +kernel) ⟨by rw [hR]; exact Nat.le_of_ble_eq_true rfl, by rw [hR]; exact Nat.le_of_ble_eq_true rfl⟩) hP hD hE hT hS hA [] rfl (by decide) rfl hl.1 rfl (Nat.le_of_ble_eq_true rfl) dX7_send_1 ⟨by rw [hR]; exact Nat.le_of_ble_eq_true rfl, by rw [hR]; exact Nat.le_of_ble_eq_true rfl⟩) hP hD hS hA [] [0, 1, 2, 3, 4, 5, 6, 7, 8] rfl rfl (by decide) (by decide) (fun r1 u H locs hw hP hD hS => ?_)
  obtain rfl := hw
  have hP : va_P D vwCl [(h0, .inr (7, [.ref se, .ref hi0, .ref li])), (se, .inr (6, [.ref ob, .ref sc, .ref gr, .int gc, .int gk, .int inf, .int idl, .int gw, .int bl, .int (nI ph)])), (ob, .inr (3, [.int (nI src), .ref ga, .int (nI gl), .ref fa, .int (nI ff), .int (nI ql)])), (ga, .inl (cI, 24, .inl gf)), (fa, .inl (cG, 4, .inr (.inr (.inr (.inr (gq4 r0 r1 r2 r3)))))), (r0, .inl (cI, 31, .inl (Rw 0))), (r1, .inl (cI, 31, .inl (Rw 1))), (r2, .inl (cI, 31, .inl (Rw 2))), (r3, .inl (cI, 31, .inl (Rw 3)))] H := hP
  have hD : va_D A [(h0, .inr (7, [.ref se, .ref hi0, .ref li])), (se, .inr (6, [.ref ob, .ref sc, .ref gr, .int gc, .int gk, .int inf, .int idl, .int gw, .int bl, .int (nI ph)])), (ob, .inr (3, [.int (nI src), .ref ga, .int (nI gl), .ref fa, .int (nI ff), .int (nI ql)])), (ga, .inl (cI, 24, .inl gf)), (fa, .inl (cG, 4, .inr (.inr (.inr (.inr (gq4 r0 r1 r2 r3)))))), (r0, .inl (cI, 31, .inl (Rw 0))), (r1, .inl (cI, 31, .inl (Rw 1))), (r2, .inl (cI, 31, .inl (Rw 2))), (r3, .inl (cI, 31, .inl (Rw 3)))] := hD
  refine lv_if_eq (tgt := 21) hx hb dX7_send_4 (by decide) (fun c4 => ?_) (fun c4 => ?_)
  · skip
    have k4 : (isB (nI t)) = false := bI_f c4
    exact absurd k4 (by rw [hb0]; decide)
  · skip
    have k4 : (isB (nI t)) = true := bI_t c4
    refine lv_aload_n hx hb dX7_send_7 rfl (lv_at hl 0 rfl) ?_
    refine va_get (D := D) (ci := 7) (v := .ref se) (C := RX7) (T := TX7) (N := 3) hx hb hts inX7_send_X7 hown hK hP 0 rfl rfl 0 (by decide) (hts (.fieldLink RX7 20 "ScrambledLine" "sender" "LScrambledLine$Sender;") (by decide +kernel)) (fun _ h9 => h9) rfl dX7_send_8 ?_
    refine va_getN (D := D) (ci := 6) (v := .ref ob) (C := RX6) (T := TX6) (N := 10) (ref := "ScrambledLine$Sender") hx hb hts inX7_send_X6 hown hK hP 1 rfl rfl 0 (by decide) (hE.2.1.fX7_44) (fun _ h9 => h9) rfl dX7_send_11 ?_
    refine lv_iload_n hx hb dX7_send_14 rfl (lv_at hl 1 rfl) ?_
    refine ca_i (wr := [(h0, .inr (7, [.ref se, .ref hi0, .ref li])), (se, .inr (6, [.ref ob, .ref sc, .ref gr, .int gc, .int gk, .int inf, .int idl, .int gw, .int bl, .int (nI ph)]))]) (ru_V (As := [.int (nI t)]) (rest := []) ⟨hx, hb, hml, hown, hts⟩ (c_X3_enqueue l D cI cG tt H.size ob ga fa src gl ff ql gf r0 r1 r2 r3 Rw t gd q hq hff hg hgd hQ0 hqn) (cwV 1 hts gX7_send_X3_enqueue rfl rfl rfl (by decide +kernel) ⟨by rw [hR]; exact Nat.le_of_ble_eq_true rfl, by rw [hR]; exact Nat.le_of_ble_eq_true rfl⟩) hP hD hE hT hS hA [2, 3, 4, 5, 6, 7, 8] rfl (by decide) (va_recv hK hP (ci := 3) (q0 := 2) rfl rfl) rfl hl.1 rfl (Nat.le_of_ble_eq_true rfl) dX7_send_15 ⟨by rw [hR]; exact Nat.le_of_ble_eq_true rfl, by rw [hR]; exact Nat.le_of_ble_eq_true rfl⟩) hP hD hS hA [2, 3, 4, 5, 6, 7, 8] [0, 1] rfl rfl (by decide) (by decide) (fun r15 u H locs hw hP hD hS => ?_)
    obtain ⟨Rp_15, rfl⟩ : ∃ z, z = u := ⟨_, rfl⟩
    obtain ⟨rfl, hQ1_15⟩ := hw
    have hP : va_P D vwCl [(h0, .inr (7, [.ref se, .ref hi0, .ref li])), (se, .inr (6, [.ref ob, .ref sc, .ref gr, .int gc, .int gk, .int inf, .int idl, .int gw, .int bl, .int (nI ph)])), (ob, .inr (3, [.int (nI src), .ref ga, .int (nI 0), .ref fa, .int (nI ff), .int (nI (ql + 1))])), (ga, .inl (cI, 24, .inl gf)), (fa, .inl (cG, 4, .inr (.inr (.inr (.inr (gq4 r0 r1 r2 r3)))))), (r0, .inl (cI, 31, .inl (Rp_15 0))), (r1, .inl (cI, 31, .inl (Rp_15 1))), (r2, .inl (cI, 31, .inl (Rp_15 2))), (r3, .inl (cI, 31, .inl (Rp_15 3)))] H := hP
    have hD : va_D A [(h0, .inr (7, [.ref se, .ref hi0, .ref li])), (se, .inr (6, [.ref ob, .ref sc, .ref gr, .int gc, .int gk, .int inf, .int idl, .int gw, .int bl, .int (nI ph)])), (ob, .inr (3, [.int (nI src), .ref ga, .int (nI 0), .ref fa, .int (nI ff), .int (nI (ql + 1))])), (ga, .inl (cI, 24, .inl gf)), (fa, .inl (cG, 4, .inr (.inr (.inr (.inr (gq4 r0 r1 r2 r3)))))), (r0, .inl (cI, 31, .inl (Rp_15 0))), (r1, .inl (cI, 31, .inl (Rp_15 1))), (r2, .inl (cI, 31, .inl (Rp_15 2))), (r3, .inl (cI, 31, .inl (Rp_15 3)))] := hD
    refine lv_goto (tgt := 22) hx hb dX7_send_18 (by decide) ?_
    refine W_q hQ ?_
    exact rt_i Rp_15 hx hb hr hlocks dX7_send_22 hS hP hD (⟨rfl, hQ1_15⟩)
