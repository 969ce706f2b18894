theorem key_m (r : Nat) : nI (r / 256 % 2) ^^^ nI (r / 1024 % 2) = nI (kN r) := by
  rw [xr (Nat.mod_lt _ (by decide)) (Nat.mod_lt _ (by decide))]
  unfold kN
  exact congrArg nI (by omega)
theorem lv_02 {la : Nat} (h : la < 4) (h1 : ¬ la = 1) (h3 : ¬ la = 3) : nI 0 = lvI la := by
  rcases (show la = 0 ∨ la = 2 by omega) with rfl | rfl <;> rfl
theorem gN_lt (n : Nat) : gN n < 32 := by unfold gN; split <;> decide
/-- the nibble that is found among the first ones -/
def fnd (w : Nat) : Nat → Int32
  | 0 => -1
  | i + 1 => if gN i = w then nI i else fnd w i
theorem fnd_1 {w i : Nat} (h : gN i = w) : nI i = fnd w (i + 1) := (if_pos h).symm
theorem fnd_0 {w i : Nat} {fd : Int32} (h : ¬ gN i = w) (hf : fd = fnd w i) : fd = fnd w (i + 1) := by rw [hf]; exact (if_neg h).symm
theorem fnd_16 : ∀ w, w < 32 → fnd w 16 = nbI (nN w) := by decide +kernel
/-- five bits are laid behind the first ones -/
def LY (bf bf2 : Nat → Int32) (bc w : Nat) : Prop := (∀ j, j < bc → bf2 j = bf j) ∧ ∀ i, i < 5 → bf2 (bc + i) = nI (w / 2 ^ (4 - i) % 2)
theorem LY_5 (bf : Nat → Int32) (bc w : Nat) : LY bf (upd (upd (upd (upd (upd bf bc (nI (w / 16 % 2))) (bc + 1) (nI (w / 8 % 2))) (bc + 1 + 1) (nI (w / 4 % 2))) (bc + 1 + 1 + 1) (nI (w / 2 % 2))) (bc + 1 + 1 + 1 + 1) (nI (w / 1 % 2))) bc w := by
  refine ⟨fun j hj => ?_, fun i hi => ?_⟩
  · rw [pk_un (by omega), pk_un (by omega), pk_un (by omega), pk_un (by omega), pk_un (by omega)]
  · rcases (show i = 0 ∨ i = 1 ∨ i = 2 ∨ i = 3 ∨ i = 4 by omega) with rfl | rfl | rfl | rfl | rfl
    · rw [pk_un (by omega), pk_un (by omega), pk_un (by omega), pk_un (by omega)]; exact pk_us
    · rw [pk_un (by omega), pk_un (by omega), pk_un (by omega)]; exact pk_us
    · rw [pk_un (by omega), pk_un (by omega)]; exact pk_us
    · rw [pk_un (by omega)]; exact pk_us
    · exact pk_us
/-- the waiting frames, as the reference holds them -/
def QM (qf : Nat → Int32) (ql : Nat) (q : Nat → Nat) : Prop := ∀ k, k < 32 * ql → k % 32 < 26 → qf k = nI (q k)
theorem qp_0 {q gd : Nat → Nat} {ql x gl : Nat} {qf : Nat → Int32} (h : QM qf ql q) : ∀ k, k < 32 * ql + 2 + 0 → k % 32 < 26 → upd (upd qf (32 * ql) (nI x)) (32 * ql + 1) (nI gl) k = nI (qput q ql x gl gd k) := fun k hk hm => by
  unfold qput
  by_cases e1 : k = 32 * ql + 1
  · subst e1; rw [pk_us, if_neg (by omega), if_neg (by omega), if_pos rfl]
  · rw [pk_un e1]
    by_cases e0 : k = 32 * ql
    · subst e0; rw [pk_us, if_neg (by omega), if_pos rfl]
    · rw [pk_un e0, if_pos (by omega)]; exact h k (by omega) hm
theorem qp_1 {q gd : Nat → Nat} {ql x gl i : Nat} {qq : Nat → Int32} (hi : i < gl) (h : ∀ k, k < 32 * ql + 2 + i → k % 32 < 26 → qq k = nI (qput q ql x gl gd k)) : ∀ k, k < 32 * ql + 2 + (i + 1) → k % 32 < 26 → upd qq (32 * ql + 2 + i) (nI (gd i)) k = nI (qput q ql x gl gd k) := fun k hk hm => by
  by_cases e : k = 32 * ql + 2 + i
  · subst e
    rw [pk_us]
    unfold qput
    rw [if_neg (by omega), if_neg (by omega), if_neg (by omega), if_pos (by omega), show 32 * ql + 2 + i - (32 * ql + 2) = i by omega]
  · rw [pk_un e]; exact h k (by omega) hm
theorem qp_2 {q gd : Nat → Nat} {ql x gl i : Nat} {qq : Nat → Int32} (hi : gl ≤ i) (h : ∀ k, k < 32 * ql + 2 + i → k % 32 < 26 → qq k = nI (qput q ql x gl gd k)) : ∀ k, k < 32 * ql + 2 + (i + 1) → k % 32 < 26 → upd qq (32 * ql + 2 + i) (nI 0) k = nI (qput q ql x gl gd k) := fun k hk hm => by
  by_cases e : k = 32 * ql + 2 + i
  · subst e
    rw [pk_us]
    unfold qput
    rw [if_neg (by omega), if_neg (by omega), if_neg (by omega), if_neg (by omega)]
  · rw [pk_un e]; exact h k (by omega) hm
theorem qp_end {q gd : Nat → Nat} {ql x gl i : Nat} {qq : Nat → Int32} (hi : i = 24) (h : ∀ k, k < 32 * ql + 2 + i → k % 32 < 26 → qq k = nI (qput q ql x gl gd k)) : QM qq (ql + 1) (qput q ql x gl gd) := fun k hk hm => h k (by omega) hm
set_option maxHeartbeats 4000000 in
set_option maxRecDepth 100000 in
theorem c_X8_keyOf (l : Launch) (D : va_G) (cI cG : ClassId) (tt : Nat × Nat × Nat) (sz : Nat) (r0 : Nat) (hr : r0 < 2048) : Met l yX8_keyOf wsX8_keyOf ({ frames := 0, cells := 0, slots := 0, locals := 0 }) (PC D cI cG tt [.int (nI r0)] [] sz) (QI (fun (r : Int32) (u : Unit) => r = nI (kN r0)) (fun (u : Unit) => []) D (va_A [] sz)) 0 0 (va_A [] sz) := by
  refine ct_of (y := yX8_keyOf) (cc := cX8_keyOf) (maxL := 1) (ret := (some .int)) (Qf := QI (fun (r : Int32) (u : Unit) => r = nI (kN r0)) (fun (u : Unit) => []) D) (by decide) rfl ?_
  intro p e s m args below meth c A Q R H locs hR hQ hx hb hml hr hts hown hlocks hin hP hD hE hT hA hS
  have hK := hE.1
  have hl := lv_entry ([.int (nI r0)]) (n := 1) (Nat.le_of_ble_eq_true rfl)
  rw [lg_entry_eq]
  generalize (lg_sl ([.int (nI r0)]) ++ List.replicate (1 - (lg_sl ([.int (nI r0)])).length) Slot.unset).toArray = ls at hl ⊢
  have hl : lv_has ls 1 [(0, .int (nI r0))] := hl
  refine lv_iload_n hx hb dX8_keyOf_0 rfl (lv_at hl 0 rfl) ?_
  refine lv_bipush (v := nI 8) hx hb dX8_keyOf_1 rfl ?_
  refine lv_ishr hx hb dX8_keyOf_3 ?_
  refine lv_to (y := nI (r0 / 256)) (pk_shrN (n := r0) (by omega) _ 8 rfl) ?_
  refine lv_iconst (v := nI 1) hx hb dX8_keyOf_4 rfl ?_
  refine lv_iand hx hb dX8_keyOf_5 ?_
  refine lv_to (y := nI ((r0 / 256) % 2)) (pk_andN (by omega) 1 rfl) ?_
  refine lv_iload_n hx hb dX8_keyOf_6 rfl (lv_at hl 0 rfl) ?_
  refine lv_bipush (v := nI 10) hx hb dX8_keyOf_7 rfl ?_
  refine lv_ishr hx hb dX8_keyOf_9 ?_
  refine lv_to (y := nI (r0 / 1024)) (pk_shrN (n := r0) (by omega) _ 10 rfl) ?_
  refine lv_iconst (v := nI 1) hx hb dX8_keyOf_10 rfl ?_
  refine lv_iand hx hb dX8_keyOf_11 ?_
  refine lv_to (y := nI ((r0 / 1024) % 2)) (pk_andN (by omega) 1 rfl) ?_
  refine lv_ixor hx hb dX8_keyOf_12 ?_
  refine lv_to (y := nI (kN r0)) (key_m r0) ?_
  refine W_q hQ ?_
  exact rt_i () hx hb hr hlocks dX8_keyOf_13 hS hP hD rfl

set_option maxHeartbeats 4000000 in
set_option maxRecDepth 100000 in
theorem c_X8_levelOf (l : Launch) (D : va_G) (cI cG : ClassId) (tt : Nat × Nat × Nat) (sz : Nat) (la : Nat) (hla : la < 4) : Met l yX8_levelOf wsX8_levelOf ({ frames := 0, cells := 0, slots := 0, locals := 0 }) (PC D cI cG tt [.int (nI la)] [] sz) (QI (fun (r : Int32) (u : Unit) => r = lvI la) (fun (u : Unit) => []) D (va_A [] sz)) 0 0 (va_A [] sz) := by
  refine ct_of (y := yX8_levelOf) (cc := cX8_levelOf) (maxL := 1) (ret := (some .int)) (Qf := QI (fun (r : Int32) (u : Unit) => r = lvI la) (fun (u : Unit) => []) D) (by decide) rfl ?_
  intro p e s m args below meth c A Q R H locs hR hQ hx hb hml hr hts hown hlocks hin hP hD hE hT hA hS
  have hK := hE.1
  have hl := lv_entry ([.int (nI la)]) (n := 1) (Nat.le_of_ble_eq_true rfl)
  rw [lg_entry_eq]
  generalize (lg_sl ([.int (nI la)]) ++ List.replicate (1 - (lg_sl ([.int (nI la)])).length) Slot.unset).toArray = ls at hl ⊢
  have hl : lv_has ls 1 [(0, .int (nI la))] := hl
  refine lv_iload_n hx hb dX8_levelOf_0 rfl (lv_at hl 0 rfl) ?_
  refine lv_iconst (v := nI 1) hx hb dX8_levelOf_1 rfl ?_
  refine lv_icmp_ne (tgt := 9) hx hb dX8_levelOf_2 (by decide) (fun c2 => ?_) (fun c2 => ?_)
  · skip
    have k2 : ¬ la = 1 := fun zq => c2 ((nI_eq (a := la) (b := 1) (by omega) (by omega)).mpr zq)
    refine lv_iload_n hx hb dX8_levelOf_9 rfl (lv_at hl 0 rfl) ?_
    refine lv_iconst (v := nI 3) hx hb dX8_levelOf_10 rfl ?_
    refine lv_icmp_ne (tgt := 18) hx hb dX8_levelOf_11 (by decide) (fun c11 => ?_) (fun c11 => ?_)
    · skip
      have k11 : ¬ la = 3 := fun zq => c11 ((nI_eq (a := la) (b := 3) (by omega) (by omega)).mpr zq)
      refine lv_iconst (v := nI 0) hx hb dX8_levelOf_18 rfl ?_
      refine W_q hQ ?_
      exact rt_i () hx hb hr hlocks dX8_levelOf_19 hS hP hD (lv_02 hla k2 k11)
    · skip
      have k11 : la = 3 := (nI_eq (a := la) (b := 3) (by omega) (by omega)).mp c11
      refine lv_iconst (v := (-1)) hx hb dX8_levelOf_14 rfl ?_
      refine lv_goto (tgt := 19) hx hb dX8_levelOf_15 (by decide) ?_
      refine W_q hQ ?_
      exact rt_i () hx hb hr hlocks dX8_levelOf_19 hS hP hD (by rw [k11]; rfl)
  · skip
    have k2 : la = 1 := (nI_eq (a := la) (b := 1) (by omega) (by omega)).mp c2
    refine lv_iconst (v := nI 1) hx hb dX8_levelOf_5 rfl ?_
    refine lv_goto (tgt := 19) hx hb dX8_levelOf_6 (by decide) ?_
    refine W_q hQ ?_
    exact rt_i () hx hb hr hlocks dX8_levelOf_19 hS hP hD (by rw [k2]; rfl)

set_option maxHeartbeats 4000000 in
set_option maxRecDepth 100000 in
theorem c_X8_groupOf (l : Launch) (D : va_G) (cI cG : ClassId) (tt : Nat × Nat × Nat) (sz : Nat) (n : Nat) (hn : n < 16) : Met l yX8_groupOf wsX8_groupOf ({ frames := 0, cells := 0, slots := 0, locals := 0 }) (PC D cI cG tt [.int (nI n)] [] sz) (QI (fun (r : Int32) (u : Unit) => r = nI (gN n)) (fun (u : Unit) => []) D (va_A [] sz)) 0 0 (va_A [] sz) := by
  refine ct_of (y := yX8_groupOf) (cc := cX8_groupOf) (maxL := 1) (ret := (some .int)) (Qf := QI (fun (r : Int32) (u : Unit) => r = nI (gN n)) (fun (u : Unit) => []) D) (by decide) rfl ?_
  intro p e s m args below meth c A Q R H locs hR hQ hx hb hml hr hts hown hlocks hin hP hD hE hT hA hS
  have hK := hE.1
  have hl := lv_entry ([.int (nI n)]) (n := 1) (Nat.le_of_ble_eq_true rfl)
  rw [lg_entry_eq]
  generalize (lg_sl ([.int (nI n)]) ++ List.replicate (1 - (lg_sl ([.int (nI n)])).length) Slot.unset).toArray = ls at hl ⊢
  have hl : lv_has ls 1 [(0, .int (nI n))] := hl
  refine lv_iload_n hx hb dX8_groupOf_0 rfl (lv_at hl 0 rfl) ?_
  rcases (show n = 0 ∨ n = 1 ∨ n = 2 ∨ n = 3 ∨ n = 4 ∨ n = 5 ∨ n = 6 ∨ n = 7 ∨ n = 8 ∨ n = 9 ∨ n = 10 ∨ n = 11 ∨ n = 12 ∨ n = 13 ∨ n = 14 ∨ n = 15 by omega) with rfl | rfl | rfl | rfl | rfl | rfl | rfl | rfl | rfl | rfl | rfl | rfl | rfl | rfl | rfl | rfl
  · skip
    refine lv_tableIn (off := 75) (tgt := 76) hx hb dX8_groupOf_1 (by decide) (by decide) (by decide) (by decide) ?_
    refine lv_bipush (v := nI 30) hx hb dX8_groupOf_76 rfl ?_
    refine W_q hQ ?_
    exact rt_i () hx hb hr hlocks dX8_groupOf_78 hS hP hD rfl
  · skip
    refine lv_tableIn (off := 78) (tgt := 79) hx hb dX8_groupOf_1 (by decide) (by decide) (by decide) (by decide) ?_
    refine lv_bipush (v := nI 9) hx hb dX8_groupOf_79 rfl ?_
    refine W_q hQ ?_
    exact rt_i () hx hb hr hlocks dX8_groupOf_81 hS hP hD rfl
  · skip
    refine lv_tableIn (off := 81) (tgt := 82) hx hb dX8_groupOf_1 (by decide) (by decide) (by decide) (by decide) ?_
    refine lv_bipush (v := nI 20) hx hb dX8_groupOf_82 rfl ?_
    refine W_q hQ ?_
    exact rt_i () hx hb hr hlocks dX8_groupOf_84 hS hP hD rfl
  · skip
    refine lv_tableIn (off := 84) (tgt := 85) hx hb dX8_groupOf_1 (by decide) (by decide) (by decide) (by decide) ?_
    refine lv_bipush (v := nI 21) hx hb dX8_groupOf_85 rfl ?_
    refine W_q hQ ?_
    exact rt_i () hx hb hr hlocks dX8_groupOf_87 hS hP hD rfl
  · skip
    refine lv_tableIn (off := 87) (tgt := 88) hx hb dX8_groupOf_1 (by decide) (by decide) (by decide) (by decide) ?_
    refine lv_bipush (v := nI 10) hx hb dX8_groupOf_88 rfl ?_
    refine W_q hQ ?_
    exact rt_i () hx hb hr hlocks dX8_groupOf_90 hS hP hD rfl
  · skip
    refine lv_tableIn (off := 90) (tgt := 91) hx hb dX8_groupOf_1 (by decide) (by decide) (by decide) (by decide) ?_
    refine lv_bipush (v := nI 11) hx hb dX8_groupOf_91 rfl ?_
    refine W_q hQ ?_
    exact rt_i () hx hb hr hlocks dX8_groupOf_93 hS hP hD rfl
  · skip
    refine lv_tableIn (off := 93) (tgt := 94) hx hb dX8_groupOf_1 (by decide) (by decide) (by decide) (by decide) ?_
    refine lv_bipush (v := nI 14) hx hb dX8_groupOf_94 rfl ?_
    refine W_q hQ ?_
    exact rt_i () hx hb hr hlocks dX8_groupOf_96 hS hP hD rfl
  · skip
    refine lv_tableIn (off := 96) (tgt := 97) hx hb dX8_groupOf_1 (by decide) (by decide) (by decide) (by decide) ?_
    refine lv_bipush (v := nI 15) hx hb dX8_groupOf_97 rfl ?_
    refine W_q hQ ?_
    exact rt_i () hx hb hr hlocks dX8_groupOf_99 hS hP hD rfl
  · skip
    refine lv_tableIn (off := 99) (tgt := 100) hx hb dX8_groupOf_1 (by decide) (by decide) (by decide) (by decide) ?_
    refine lv_bipush (v := nI 18) hx hb dX8_groupOf_100 rfl ?_
    refine W_q hQ ?_
    exact rt_i () hx hb hr hlocks dX8_groupOf_102 hS hP hD rfl
  · skip
    refine lv_tableIn (off := 102) (tgt := 103) hx hb dX8_groupOf_1 (by decide) (by decide) (by decide) (by decide) ?_
    refine lv_bipush (v := nI 19) hx hb dX8_groupOf_103 rfl ?_
    refine W_q hQ ?_
    exact rt_i () hx hb hr hlocks dX8_groupOf_105 hS hP hD rfl
  · skip
    refine lv_tableIn (off := 105) (tgt := 106) hx hb dX8_groupOf_1 (by decide) (by decide) (by decide) (by decide) ?_
    refine lv_bipush (v := nI 22) hx hb dX8_groupOf_106 rfl ?_
    refine W_q hQ ?_
    exact rt_i () hx hb hr hlocks dX8_groupOf_108 hS hP hD rfl
  · skip
    refine lv_tableIn (off := 108) (tgt := 109) hx hb dX8_groupOf_1 (by decide) (by decide) (by decide) (by decide) ?_
    refine lv_bipush (v := nI 23) hx hb dX8_groupOf_109 rfl ?_
    refine W_q hQ ?_
    exact rt_i () hx hb hr hlocks dX8_groupOf_111 hS hP hD rfl
  · skip
    refine lv_tableIn (off := 111) (tgt := 112) hx hb dX8_groupOf_1 (by decide) (by decide) (by decide) (by decide) ?_
    refine lv_bipush (v := nI 26) hx hb dX8_groupOf_112 rfl ?_
    refine W_q hQ ?_
    exact rt_i () hx hb hr hlocks dX8_groupOf_114 hS hP hD rfl
  · skip
    refine lv_tableIn (off := 114) (tgt := 115) hx hb dX8_groupOf_1 (by decide) (by decide) (by decide) (by decide) ?_
    refine lv_bipush (v := nI 27) hx hb dX8_groupOf_115 rfl ?_
    refine W_q hQ ?_
    exact rt_i () hx hb hr hlocks dX8_groupOf_117 hS hP hD rfl
  · skip
    refine lv_tableIn (off := 117) (tgt := 118) hx hb dX8_groupOf_1 (by decide) (by decide) (by decide) (by decide) ?_
    refine lv_bipush (v := nI 28) hx hb dX8_groupOf_118 rfl ?_
    refine W_q hQ ?_
    exact rt_i () hx hb hr hlocks dX8_groupOf_120 hS hP hD rfl
  · skip
    refine lv_tableOut (tgt := 121) hx hb dX8_groupOf_1 (by decide) (by decide) ?_
    refine lv_bipush (v := nI 29) hx hb dX8_groupOf_121 rfl ?_
    refine W_q hQ ?_
    exact rt_i () hx hb hr hlocks dX8_groupOf_123 hS hP hD rfl

set_option maxHeartbeats 4000000 in
set_option maxRecDepth 100000 in
theorem c_X8_nibbleOf (l : Launch) (D : va_G) (cI cG : ClassId) (tt : Nat × Nat × Nat) (sz : Nat) (w : Nat) (hw : w < 32) : Met l yX8_nibbleOf wsX8_nibbleOf ({ frames := 1, cells := 0, slots := 0, locals := 20 }) (PC D cI cG tt [.int (nI w)] [] sz) (QI (fun (r : Int32) (u : Unit) => r = nbI (nN w)) (fun (u : Unit) => []) D (va_A [] sz)) 0 0 (va_A [] sz) := by
  refine ct_of (y := yX8_nibbleOf) (cc := cX8_nibbleOf) (maxL := 3) (ret := (some .int)) (Qf := QI (fun (r : Int32) (u : Unit) => r = nbI (nN w)) (fun (u : Unit) => []) D) (by decide) rfl ?_
  intro p e s m args below meth c A Q R H locs hR hQ hx hb hml hr hts hown hlocks hin hP hD hE hT hA hS
  have hK := hE.1
  have hl := lv_entry ([.int (nI w)]) (n := 3) (Nat.le_of_ble_eq_true rfl)
  rw [lg_entry_eq]
  generalize (lg_sl ([.int (nI w)]) ++ List.replicate (3 - (lg_sl ([.int (nI w)])).length) Slot.unset).toArray = ls at hl ⊢
  have hl : lv_has ls 3 [(0, .int (nI w))] := hl
  refine lv_iconst (v := (-1)) hx hb dX8_nibbleOf_0 rfl ?_
  refine lv_istore_n (lv' := [(1, .int (-1)), (0, .int (nI w))]) hx hb dX8_nibbleOf_1 rfl hl (by decide) rfl (fun ls hl => ?_)
  refine lv_iconst (v := nI 0) hx hb dX8_nibbleOf_2 rfl ?_
  refine lv_istore_n (lv' := [(2, .int (nI 0)), (1, .int (-1)), (0, .int (nI w))]) hx hb dX8_nibbleOf_3 rfl hl (by decide) rfl (fun ls hl => ?_)
  have L4 : ∀ (fu4 : Nat), ∀ (i : Nat) (fd : Int32), (i ≤ 16) → (fd = fnd w i) → 16 - i < fu4 → ∀ (H : Heap) (locs : List Loc), va_P D vwCl [] H → va_D A [] → va_S A s.heap H locs → ∀ ls : Array Slot, lv_has ls 3 [(2, .int (nI i)), (1, .int fd), (0, .int (nI w))] → W p l e R s m args below meth c H locs 0 0 Q (F0 m 4 ls []) := by
    intro fu4
    induction fu4 with
    | zero => intro i fd hi hf hm4; exact absurd hm4 (Nat.not_lt_zero _)
    | succ fu4 ih4 =>
      intro i fd hi hf hm4 H locs hP hD hS ls hl
      refine lv_iload_n hx hb dX8_nibbleOf_4 rfl (lv_at hl 0 rfl) ?_
      refine lv_bipush (v := nI 16) hx hb dX8_nibbleOf_5 rfl ?_
      refine lv_icmp_ge (tgt := 30) hx hb dX8_nibbleOf_7 (by decide) (fun c7 => ?_) (fun c7 => ?_)
      · skip
        have k7 : 16 ≤ i := (nI_leI (a := 16) (b := i) (by omega) (by omega)).mp c7
        refine lv_iload_n hx hb dX8_nibbleOf_30 rfl (lv_at hl 1 rfl) ?_
        refine W_q hQ ?_
        exact rt_i () hx hb hr hlocks dX8_nibbleOf_31 hS hP hD (by rw [hf, show i = 16 by omega]; exact fnd_16 w hw)
      · skip
        have k7 : ¬ 16 ≤ i := fun zq => c7 ((nI_leI (a := 16) (b := i) (by omega) (by omega)).mpr zq)
        refine lv_iload_n hx hb dX8_nibbleOf_10 rfl (lv_at hl 0 rfl) ?_
        refine ca_i (wr := []) (ru_S (As := [.int (nI i)]) (rest := []) ⟨hx, hb, hml, hown, hts⟩ (c_X8_groupOf l D cI cG tt H.size i (by omega)) (cwS 1 hts gX8_nibbleOf_X8_groupOf rfl rfl rfl (by decide +kernel) ⟨by rw [hR]; exact Nat.le_of_ble_eq_true rfl, by rw [hR]; exact Nat.le_of_ble_eq_true rfl⟩) hP hD hE hT hS hA [] rfl (by decide) rfl hl.1 rfl (Nat.le_of_ble_eq_true rfl) dX8_nibbleOf_11 ⟨by rw [hR]; exact Nat.le_of_ble_eq_true rfl, by rw [hR]; exact Nat.le_of_ble_eq_true rfl⟩) hP hD hS hA [] [] rfl rfl (by decide) (by decide) (fun r11 u H locs hw hP hD hS => ?_)
        obtain rfl := hw
        have hP : va_P D vwCl [] H := hP
        have hD : va_D A [] := hD
        refine lv_iload_n hx hb dX8_nibbleOf_14 rfl (lv_at hl 2 rfl) ?_
        have hg32 := gN_lt i
        refine lv_icmp_ne (tgt := 22) hx hb dX8_nibbleOf_15 (by decide) (fun c15 => ?_) (fun c15 => ?_)
        · skip
          have k15 : ¬ (gN i) = w := fun zq => c15 ((nI_eq (a := (gN i)) (b := w) (by omega) (by omega)).mpr zq)
          refine lv_iload_n hx hb dX8_nibbleOf_22 rfl (lv_at hl 1 rfl) ?_
          refine lv_istore_n (lv' := [(1, .int fd), (2, .int (nI i)), (0, .int (nI w))]) hx hb dX8_nibbleOf_23 rfl hl (by decide) rfl (fun ls hl => ?_)
          refine lv_iinc (v := nI (i + 1)) (lv' := [(2, .int (nI (i + 1))), (1, .int fd), (0, .int (nI w))]) hx hb dX8_nibbleOf_24 hl (k := 1) rfl (nI_add i 1) (by decide) rfl (fun ls hl => ?_)
          refine lv_goto (tgt := 4) hx hb dX8_nibbleOf_27 (by decide) ?_
          exact ih4 (i + 1) fd (by omega) (fnd_0 k15 hf) (by omega) _ _ hP hD hS _ (lv_sub hl [0, 1, 2] rfl)
        · skip
          have k15 : (gN i) = w := (nI_eq (a := (gN i)) (b := w) (by omega) (by omega)).mp c15
          refine lv_iload_n hx hb dX8_nibbleOf_18 rfl (lv_at hl 0 rfl) ?_
          refine lv_goto (tgt := 23) hx hb dX8_nibbleOf_19 (by decide) ?_
          refine lv_istore_n (lv' := [(1, .int (nI i)), (2, .int (nI i)), (0, .int (nI w))]) hx hb dX8_nibbleOf_23 rfl hl (by decide) rfl (fun ls hl => ?_)
          refine lv_iinc (v := nI (i + 1)) (lv' := [(2, .int (nI (i + 1))), (1, .int (nI i)), (0, .int (nI w))]) hx hb dX8_nibbleOf_24 hl (k := 1) rfl (nI_add i 1) (by decide) rfl (fun ls hl => ?_)
          refine lv_goto (tgt := 4) hx hb dX8_nibbleOf_27 (by decide) ?_
          exact ih4 (i + 1) (nI i) (by omega) (fnd_1 k15) (by omega) _ _ hP hD hS _ (lv_sub hl [0, 1, 2] rfl)
  exact L4 _ 0 (-1) (Nat.zero_le _) rfl (Nat.lt_succ_self _) _ _ hP hD hS _ (lv_sub hl [0, 1, 2] rfl)

theorem inX8_check_X8 : ∀ w ∈ u_ws RX8 TX8 38, w ∈ wsX8_check := by decide +kernel
set_option maxHeartbeats 4000000 in
set_option maxRecDepth 100000 in
theorem c_X8_check (l : Launch) (D : va_G) (cI cG : ClassId) (tt : Nat × Nat × Nat) (sz : Nat) (h0 : Nat) (a_gift : Nat) (a_queue : Nat) (a_bits : Nat) (a_bytes : Nat) (a_hitTime : Nat) (a_hitLevel : Nat) (a_nibble : Nat) (a_counts : Nat) (a_good : Nat) (v_ownSource : Int32) (v_ownTarget : Int32) (v_given : Int32) (v_frames : Int32) (v_bitCount : Int32) (v_bitAt : Int32) (v_inFrame : Int32) (v_idle : Int32) (v_register : Int32) (v_phase : Int32) (v_size : Int32) (v_now : Int32) (v_got : Int32) (v_ear : Int32) (v_run : Int32) (v_locked : Int32) (v_reads : Int32) (v_quiet : Int32) (v_ones : Int32) (v_last : Int32) (v_heard : Int32) (v_ending : Int32) (v_started : Int32) (v_faulty : Int32) (v_nibbles : Int32) (v_ended : Int32) (v_any : Int32) (v_goodSource : Int32) (v_goodLength : Int32) (yf : Nat → Int32) (n : Nat) (hn : n ≤ 48) : Met l yX8_check wsX8_check ({ frames := 0, cells := 0, slots := 0, locals := 0 }) (PC D cI cG tt [.ref h0, .int (nI n)] [(h0, .inr (8, [.int v_ownSource, .int v_ownTarget, .int v_given, .ref a_gift, .int v_frames, .ref a_queue, .int v_bitCount, .int v_bitAt, .ref a_bits, .int v_inFrame, .int v_idle, .int v_register, .int v_phase, .int v_size, .ref a_bytes, .int v_now, .ref a_hitTime, .ref a_hitLevel, .int v_got, .int v_ear, .int v_run, .int v_locked, .int v_reads, .int v_quiet, .int v_ones, .int v_last, .int v_heard, .int v_ending, .int v_started, .int v_faulty, .int v_nibbles, .ref a_nibble, .ref a_counts, .int v_ended, .int v_any, .int v_goodSource, .int v_goodLength, .ref a_good])), (a_bytes, .inl (cI, 48, .inl yf))] sz) (QI (fun (r : Int32) (u : Unit) => r = ckV yf n) (fun (u : Unit) => [(h0, .inr (8, [.int v_ownSource, .int v_ownTarget, .int v_given, .ref a_gift, .int v_frames, .ref a_queue, .int v_bitCount, .int v_bitAt, .ref a_bits, .int v_inFrame, .int v_idle, .int v_register, .int v_phase, .int v_size, .ref a_bytes, .int v_now, .ref a_hitTime, .ref a_hitLevel, .int v_got, .int v_ear, .int v_run, .int v_locked, .int v_reads, .int v_quiet, .int v_ones, .int v_last, .int v_heard, .int v_ending, .int v_started, .int v_faulty, .int v_nibbles, .ref a_nibble, .ref a_counts, .int v_ended, .int v_any, .int v_goodSource, .int v_goodLength, .ref a_good])), (a_bytes, .inl (cI, 48, .inl yf))]) D (va_A [(h0, .inr (8, [.int v_ownSource, .int v_ownTarget, .int v_given, .ref a_gift, .int v_frames, .ref a_queue, .int v_bitCount, .int v_bitAt, .ref a_bits, .int v_inFrame, .int v_idle, .int v_register, .int v_phase, .int v_size, .ref a_bytes, .int v_now, .ref a_hitTime, .ref a_hitLevel, .int v_got, .int v_ear, .int v_run, .int v_locked, .int v_reads, .int v_quiet, .int v_ones, .int v_last, .int v_heard, .int v_ending, .int v_started, .int v_faulty, .int v_nibbles, .ref a_nibble, .ref a_counts, .int v_ended, .int v_any, .int v_goodSource, .int v_goodLength, .ref a_good])), (a_bytes, .inl (cI, 48, .inl yf))] sz)) 0 0 (va_A [(h0, .inr (8, [.int v_ownSource, .int v_ownTarget, .int v_given, .ref a_gift, .int v_frames, .ref a_queue, .int v_bitCount, .int v_bitAt, .ref a_bits, .int v_inFrame, .int v_idle, .int v_register, .int v_phase, .int v_size, .ref a_bytes, .int v_now, .ref a_hitTime, .ref a_hitLevel, .int v_got, .int v_ear, .int v_run, .int v_locked, .int v_reads, .int v_quiet, .int v_ones, .int v_last, .int v_heard, .int v_ending, .int v_started, .int v_faulty, .int v_nibbles, .ref a_nibble, .ref a_counts, .int v_ended, .int v_any, .int v_goodSource, .int v_goodLength, .ref a_good])), (a_bytes, .inl (cI, 48, .inl yf))] sz) := by
  refine ct_of (y := yX8_check) (cc := cX8_check) (maxL := 5) (ret := (some .int)) (Qf := QI (fun (r : Int32) (u : Unit) => r = ckV yf n) (fun (u : Unit) => [(h0, .inr (8, [.int v_ownSource, .int v_ownTarget, .int v_given, .ref a_gift, .int v_frames, .ref a_queue, .int v_bitCount, .int v_bitAt, .ref a_bits, .int v_inFrame, .int v_idle, .int v_register, .int v_phase, .int v_size, .ref a_bytes, .int v_now, .ref a_hitTime, .ref a_hitLevel, .int v_got, .int v_ear, .int v_run, .int v_locked, .int v_reads, .int v_quiet, .int v_ones, .int v_last, .int v_heard, .int v_ending, .int v_started, .int v_faulty, .int v_nibbles, .ref a_nibble, .ref a_counts, .int v_ended, .int v_any, .int v_goodSource, .int v_goodLength, .ref a_good])), (a_bytes, .inl (cI, 48, .inl yf))]) D) (by decide) rfl ?_
  intro p e s m args below meth c A Q R H locs hR hQ hx hb hml hr hts hown hlocks hin hP hD hE hT hA hS
  have hK := hE.1
  have hl := lv_entry ([.ref h0, .int (nI n)]) (n := 5) (Nat.le_of_ble_eq_true rfl)
  rw [lg_entry_eq]
  generalize (lg_sl ([.ref h0, .int (nI n)]) ++ List.replicate (5 - (lg_sl ([.ref h0, .int (nI n)])).length) Slot.unset).toArray = ls at hl ⊢
  have hl : lv_has ls 5 [(0, .ref h0), (1, .int (nI n))] := hl
  refine lv_iconst (v := (-1)) hx hb dX8_check_0 rfl ?_
  refine lv_istore_n (lv' := [(2, .int (-1)), (0, .ref h0), (1, .int (nI n))]) hx hb dX8_check_1 rfl hl (by decide) rfl (fun ls hl => ?_)
  refine lv_iconst (v := nI 0) hx hb dX8_check_2 rfl ?_
  refine lv_istore_n (lv' := [(3, .int (nI 0)), (2, .int (-1)), (0, .ref h0), (1, .int (nI n))]) hx hb dX8_check_3 rfl hl (by decide) rfl (fun ls hl => ?_)
  have L4 : ∀ (fu4 : Nat), ∀ (i : Nat) (cv : Int32), (i ≤ n) → (cv = ck yf i) → n - i < fu4 → ∀ (H : Heap) (locs : List Loc), va_P D vwCl [(h0, .inr (8, [.int v_ownSource, .int v_ownTarget, .int v_given, .ref a_gift, .int v_frames, .ref a_queue, .int v_bitCount, .int v_bitAt, .ref a_bits, .int v_inFrame, .int v_idle, .int v_register, .int v_phase, .int v_size, .ref a_bytes, .int v_now, .ref a_hitTime, .ref a_hitLevel, .int v_got, .int v_ear, .int v_run, .int v_locked, .int v_reads, .int v_quiet, .int v_ones, .int v_last, .int v_heard, .int v_ending, .int v_started, .int v_faulty, .int v_nibbles, .ref a_nibble, .ref a_counts, .int v_ended, .int v_any, .int v_goodSource, .int v_goodLength, .ref a_good])), (a_bytes, .inl (cI, 48, .inl yf))] H → va_D A [(h0, .inr (8, [.int v_ownSource, .int v_ownTarget, .int v_given, .ref a_gift, .int v_frames, .ref a_queue, .int v_bitCount, .int v_bitAt, .ref a_bits, .int v_inFrame, .int v_idle, .int v_register, .int v_phase, .int v_size, .ref a_bytes, .int v_now, .ref a_hitTime, .ref a_hitLevel, .int v_got, .int v_ear, .int v_run, .int v_locked, .int v_reads, .int v_quiet, .int v_ones, .int v_last, .int v_heard, .int v_ending, .int v_started, .int v_faulty, .int v_nibbles, .ref a_nibble, .ref a_counts, .int v_ended, .int v_any, .int v_goodSource, .int v_goodLength, .ref a_good])), (a_bytes, .inl (cI, 48, .inl yf))] → va_S A s.heap H locs → ∀ ls : Array Slot, lv_has ls 5 [(3, .int (nI i)), (2, .int cv), (0, .ref h0), (1, .int (nI n))] → W p l e R s m args below meth c H locs 0 0 Q (F0 m 4 ls []) := by
    intro fu4
    induction fu4 with
    | zero => intro i cv hi hc hm4; exact absurd hm4 (Nat.not_lt_zero _)
    | succ fu4 ih4 =>
      intro i cv hi hc hm4 H locs hP hD hS ls hl
      refine lv_iload_n hx hb dX8_check_4 rfl (lv_at hl 0 rfl) ?_
      refine lv_iload_n hx hb dX8_check_5 rfl (lv_at hl 3 rfl) ?_
      refine lv_icmp_ge (tgt := 59) hx hb dX8_check_6 (by decide) (fun c6 => ?_) (fun c6 => ?_)
      · skip
        have k6 : n ≤ i := (nI_leI (a := n) (b := i) (by omega) (by omega)).mp c6
        refine lv_iload_n hx hb dX8_check_59 rfl (lv_at hl 1 rfl) ?_
        refine lv_iconst (v := (-1)) hx hb dX8_check_60 rfl ?_
        refine lv_ixor hx hb dX8_check_61 ?_
        refine W_q hQ ?_
        exact rt_i () hx hb hr hlocks dX8_check_62 hS hP hD (by rw [hc, show i = n by omega]; rfl)
      · skip
        have k6 : ¬ n ≤ i := fun zq => c6 ((nI_leI (a := n) (b := i) (by omega) (by omega)).mpr zq)
        refine lv_iload_n hx hb dX8_check_9 rfl (lv_at hl 1 rfl) ?_
        refine lv_aload_n hx hb dX8_check_10 rfl (lv_at hl 2 rfl) ?_
        refine va_get (D := D) (ci := 8) (v := .ref a_bytes) (C := RX8) (T := TX8) (N := 38) hx hb hts inX8_check_X8 hown hK hP 0 rfl rfl 14 (by decide) (hts (.fieldLink RX8 19 "ScrambledLineModel" "bytes" "[I") (by decide +kernel)) (fun _ h9 => h9) rfl dX8_check_11 ?_
        refine lv_iload_n hx hb dX8_check_14 rfl (lv_at hl 0 rfl) ?_
        refine gl_i hx hb hK hP 1 rfl (i := i) (by omega) (by first | decide | omega) dX8_check_15 ?_
        refine lv_ixor hx hb dX8_check_16 ?_
        refine lv_istore_n (lv' := [(2, .int (cv ^^^ (yf i))), (3, .int (nI i)), (0, .ref h0), (1, .int (nI n))]) hx hb dX8_check_17 rfl hl (by decide) rfl (fun ls hl => ?_)
        refine lv_iconst (v := nI 0) hx hb dX8_check_18 rfl ?_
        refine lv_istore (lv' := [(4, .int (nI 0)), (2, .int (cv ^^^ (yf i))), (3, .int (nI i)), (0, .ref h0), (1, .int (nI n))]) hx hb dX8_check_19 hl (by decide) rfl (fun ls hl => ?_)
        have L21 : ∀ (fu21 : Nat), ∀ (k : Nat) (c2 : Int32), (k ≤ 8) → (c2 = ckS (ck yf i ^^^ yf i) k) → 8 - k < fu21 → ∀ (H : Heap) (locs : List Loc), va_P D vwCl [(h0, .inr (8, [.int v_ownSource, .int v_ownTarget, .int v_given, .ref a_gift, .int v_frames, .ref a_queue, .int v_bitCount, .int v_bitAt, .ref a_bits, .int v_inFrame, .int v_idle, .int v_register, .int v_phase, .int v_size, .ref a_bytes, .int v_now, .ref a_hitTime, .ref a_hitLevel, .int v_got, .int v_ear, .int v_run, .int v_locked, .int v_reads, .int v_quiet, .int v_ones, .int v_last, .int v_heard, .int v_ending, .int v_started, .int v_faulty, .int v_nibbles, .ref a_nibble, .ref a_counts, .int v_ended, .int v_any, .int v_goodSource, .int v_goodLength, .ref a_good])), (a_bytes, .inl (cI, 48, .inl yf))] H → va_D A [(h0, .inr (8, [.int v_ownSource, .int v_ownTarget, .int v_given, .ref a_gift, .int v_frames, .ref a_queue, .int v_bitCount, .int v_bitAt, .ref a_bits, .int v_inFrame, .int v_idle, .int v_register, .int v_phase, .int v_size, .ref a_bytes, .int v_now, .ref a_hitTime, .ref a_hitLevel, .int v_got, .int v_ear, .int v_run, .int v_locked, .int v_reads, .int v_quiet, .int v_ones, .int v_last, .int v_heard, .int v_ending, .int v_started, .int v_faulty, .int v_nibbles, .ref a_nibble, .ref a_counts, .int v_ended, .int v_any, .int v_goodSource, .int v_goodLength, .ref a_good])), (a_bytes, .inl (cI, 48, .inl yf))] → va_S A s.heap H locs → ∀ ls : Array Slot, lv_has ls 5 [(4, .int (nI k)), (2, .int c2), (3, .int (nI i)), (0, .ref h0), (1, .int (nI n))] → W p l e R s m args below meth c H locs 0 0 Q (F0 m 21 ls []) := by
          intro fu21
          induction fu21 with
          | zero => intro k c2 hk hc2 hm21; exact absurd hm21 (Nat.not_lt_zero _)
          | succ fu21 ih21 =>
            intro k c2 hk hc2 hm21 H locs hP hD hS ls hl
            refine lv_iload hx hb dX8_check_21 (lv_at hl 0 rfl) ?_
            refine lv_bipush (v := nI 8) hx hb dX8_check_23 rfl ?_
            refine lv_icmp_ge (tgt := 53) hx hb dX8_check_25 (by decide) (fun c25 => ?_) (fun c25 => ?_)
            · skip
              have k25 : 8 ≤ k := (nI_leI (a := 8) (b := k) (by omega) (by omega)).mp c25
              refine lv_iinc (v := nI (i + 1)) (lv' := [(3, .int (nI (i + 1))), (4, .int (nI k)), (2, .int c2), (0, .ref h0), (1, .int (nI n))]) hx hb dX8_check_53 hl (k := 2) rfl (nI_add i 1) (by decide) rfl (fun ls hl => ?_)
              refine lv_goto (tgt := 4) hx hb dX8_check_56 (by decide) ?_
              exact ih4 (i + 1) c2 (by omega) (by rw [hc2, show k = 8 by omega]; rfl) (by omega) _ _ hP hD hS _ (lv_sub hl [0, 2, 3, 4] rfl)
            · skip
              have k25 : ¬ 8 ≤ k := fun zq => c25 ((nI_leI (a := 8) (b := k) (by omega) (by omega)).mpr zq)
              refine lv_iload_n hx hb dX8_check_28 rfl (lv_at hl 1 rfl) ?_
              refine lv_iconst (v := nI 1) hx hb dX8_check_29 rfl ?_
              refine lv_iand hx hb dX8_check_30 ?_
              refine lv_if_ne (tgt := 40) hx hb dX8_check_31 (by decide) (fun c31 => ?_) (fun c31 => ?_)
              · skip
                
                refine lv_iload_n hx hb dX8_check_40 rfl (lv_at hl 1 rfl) ?_
                refine lv_iconst (v := nI 1) hx hb dX8_check_41 rfl ?_
                refine lv_iushr (v := ((c2).toUInt32 >>> ((nI 1).toUInt32 &&& Int32.toUInt32 31)).toInt32) hx hb dX8_check_42 rfl ?_
                refine lv_ldc hx hb (v := (-306674912)) hown (hts (.constant RX8 57 (-306674912)) (by decide +kernel)) dX8_check_43 ?_
                refine lv_ixor hx hb dX8_check_45 ?_
                refine lv_istore_n (lv' := [(2, .int ((((c2).toUInt32 >>> ((nI 1).toUInt32 &&& Int32.toUInt32 31)).toInt32) ^^^ (-306674912))), (4, .int (nI k)), (3, .int (nI i)), (0, .ref h0), (1, .int (nI n))]) hx hb dX8_check_46 rfl hl (by decide) rfl (fun ls hl => ?_)
                refine lv_iinc (v := nI (k + 1)) (lv' := [(4, .int (nI (k + 1))), (2, .int ((((c2).toUInt32 >>> ((nI 1).toUInt32 &&& Int32.toUInt32 31)).toInt32) ^^^ (-306674912))), (3, .int (nI i)), (0, .ref h0), (1, .int (nI n))]) hx hb dX8_check_47 hl (k := 1) rfl (nI_add k 1) (by decide) rfl (fun ls hl => ?_)
                refine lv_goto (tgt := 21) hx hb dX8_check_50 (by decide) ?_
                exact ih21 (k + 1) ((((c2).toUInt32 >>> ((nI 1).toUInt32 &&& Int32.toUInt32 31)).toInt32) ^^^ (-306674912)) (by omega) (ckR_1 hc2 c31) (by omega) _ _ hP hD hS _ (lv_sub hl [0, 1, 2, 3, 4] rfl)
              · skip
                
                refine lv_iload_n hx hb dX8_check_34 rfl (lv_at hl 1 rfl) ?_
                refine lv_iconst (v := nI 1) hx hb dX8_check_35 rfl ?_
                refine lv_iushr (v := ((c2).toUInt32 >>> ((nI 1).toUInt32 &&& Int32.toUInt32 31)).toInt32) hx hb dX8_check_36 rfl ?_
                refine lv_goto (tgt := 46) hx hb dX8_check_37 (by decide) ?_
                refine lv_istore_n (lv' := [(2, .int (((c2).toUInt32 >>> ((nI 1).toUInt32 &&& Int32.toUInt32 31)).toInt32)), (4, .int (nI k)), (3, .int (nI i)), (0, .ref h0), (1, .int (nI n))]) hx hb dX8_check_46 rfl hl (by decide) rfl (fun ls hl => ?_)
                refine lv_iinc (v := nI (k + 1)) (lv' := [(4, .int (nI (k + 1))), (2, .int (((c2).toUInt32 >>> ((nI 1).toUInt32 &&& Int32.toUInt32 31)).toInt32)), (3, .int (nI i)), (0, .ref h0), (1, .int (nI n))]) hx hb dX8_check_47 hl (k := 1) rfl (nI_add k 1) (by decide) rfl (fun ls hl => ?_)
                refine lv_goto (tgt := 21) hx hb dX8_check_50 (by decide) ?_
                exact ih21 (k + 1) (((c2).toUInt32 >>> ((nI 1).toUInt32 &&& Int32.toUInt32 31)).toInt32) (by omega) (ckR_0 hc2 c31) (by omega) _ _ hP hD hS _ (lv_sub hl [0, 1, 2, 3, 4] rfl)
        exact L21 _ 0 (cv ^^^ (yf i)) (Nat.zero_le _) (by rw [hc]; rfl) (Nat.lt_succ_self _) _ _ hP hD hS _ (lv_sub hl [0, 1, 2, 3, 4] rfl)
  exact L4 _ 0 (-1) (Nat.zero_le _) rfl (Nat.lt_succ_self _) _ _ hP hD hS _ (lv_sub hl [0, 1, 2, 3] rfl)

theorem inX8_lay_X8 : ∀ w ∈ u_ws RX8 TX8 38, w ∈ wsX8_lay := by decide +kernel
set_option maxHeartbeats 4000000 in
set_option maxRecDepth 100000 in
theorem c_X8_lay (l : Launch) (D : va_G) (cI cG : ClassId) (tt : Nat × Nat × Nat) (sz : Nat) (h0 : Nat) (a_gift : Nat) (a_queue : Nat) (a_bits : Nat) (a_bytes : Nat) (a_hitTime : Nat) (a_hitLevel : Nat) (a_nibble : Nat) (a_counts : Nat) (a_good : Nat) (v_ownSource : Int32) (v_ownTarget : Int32) (v_given : Int32) (v_frames : Int32) (bc : Nat) (v_bitAt : Int32) (v_inFrame : Int32) (v_idle : Int32) (v_register : Int32) (v_phase : Int32) (v_size : Int32) (v_now : Int32) (v_got : Int32) (v_ear : Int32) (v_run : Int32) (v_locked : Int32) (v_reads : Int32) (v_quiet : Int32) (v_ones : Int32) (v_last : Int32) (v_heard : Int32) (v_ending : Int32) (v_started : Int32) (v_faulty : Int32) (v_nibbles : Int32) (v_ended : Int32) (v_any : Int32) (v_goodSource : Int32) (v_goodLength : Int32) (bf : Nat → Int32) (w : Nat) (hw : w < 32) (hb5 : bc + 5 ≤ 360) : Met l yX8_lay wsX8_lay ({ frames := 0, cells := 0, slots := 0, locals := 0 }) (PC D cI cG tt [.ref h0, .int (nI w)] [(h0, .inr (8, [.int v_ownSource, .int v_ownTarget, .int v_given, .ref a_gift, .int v_frames, .ref a_queue, .int (nI bc), .int v_bitAt, .ref a_bits, .int v_inFrame, .int v_idle, .int v_register, .int v_phase, .int v_size, .ref a_bytes, .int v_now, .ref a_hitTime, .ref a_hitLevel, .int v_got, .int v_ear, .int v_run, .int v_locked, .int v_reads, .int v_quiet, .int v_ones, .int v_last, .int v_heard, .int v_ending, .int v_started, .int v_faulty, .int v_nibbles, .ref a_nibble, .ref a_counts, .int v_ended, .int v_any, .int v_goodSource, .int v_goodLength, .ref a_good])), (a_bits, .inl (cI, 360, .inl bf))] sz) (QV (fun (u : (Nat → Int32)) => match u with | bf2 => LY bf bf2 bc w) (fun (u : (Nat → Int32)) => match u with | bf2 => [(h0, .inr (8, [.int v_ownSource, .int v_ownTarget, .int v_given, .ref a_gift, .int v_frames, .ref a_queue, .int (nI (bc + 5)), .int v_bitAt, .ref a_bits, .int v_inFrame, .int v_idle, .int v_register, .int v_phase, .int v_size, .ref a_bytes, .int v_now, .ref a_hitTime, .ref a_hitLevel, .int v_got, .int v_ear, .int v_run, .int v_locked, .int v_reads, .int v_quiet, .int v_ones, .int v_last, .int v_heard, .int v_ending, .int v_started, .int v_faulty, .int v_nibbles, .ref a_nibble, .ref a_counts, .int v_ended, .int v_any, .int v_goodSource, .int v_goodLength, .ref a_good])), (a_bits, .inl (cI, 360, .inl bf2))]) D (va_A [(h0, .inr (8, [.int v_ownSource, .int v_ownTarget, .int v_given, .ref a_gift, .int v_frames, .ref a_queue, .int (nI bc), .int v_bitAt, .ref a_bits, .int v_inFrame, .int v_idle, .int v_register, .int v_phase, .int v_size, .ref a_bytes, .int v_now, .ref a_hitTime, .ref a_hitLevel, .int v_got, .int v_ear, .int v_run, .int v_locked, .int v_reads, .int v_quiet, .int v_ones, .int v_last, .int v_heard, .int v_ending, .int v_started, .int v_faulty, .int v_nibbles, .ref a_nibble, .ref a_counts, .int v_ended, .int v_any, .int v_goodSource, .int v_goodLength, .ref a_good])), (a_bits, .inl (cI, 360, .inl bf))] sz)) 0 0 (va_A [(h0, .inr (8, [.int v_ownSource, .int v_ownTarget, .int v_given, .ref a_gift, .int v_frames, .ref a_queue, .int (nI bc), .int v_bitAt, .ref a_bits, .int v_inFrame, .int v_idle, .int v_register, .int v_phase, .int v_size, .ref a_bytes, .int v_now, .ref a_hitTime, .ref a_hitLevel, .int v_got, .int v_ear, .int v_run, .int v_locked, .int v_reads, .int v_quiet, .int v_ones, .int v_last, .int v_heard, .int v_ending, .int v_started, .int v_faulty, .int v_nibbles, .ref a_nibble, .ref a_counts, .int v_ended, .int v_any, .int v_goodSource, .int v_goodLength, .ref a_good])), (a_bits, .inl (cI, 360, .inl bf))] sz) := by
  refine ct_of (y := yX8_lay) (cc := cX8_lay) (maxL := 3) (ret := none) (Qf := QV (fun (u : (Nat → Int32)) => match u with | bf2 => LY bf bf2 bc w) (fun (u : (Nat → Int32)) => match u with | bf2 => [(h0, .inr (8, [.int v_ownSource, .int v_ownTarget, .int v_given, .ref a_gift, .int v_frames, .ref a_queue, .int (nI (bc + 5)), .int v_bitAt, .ref a_bits, .int v_inFrame, .int v_idle, .int v_register, .int v_phase, .int v_size, .ref a_bytes, .int v_now, .ref a_hitTime, .ref a_hitLevel, .int v_got, .int v_ear, .int v_run, .int v_locked, .int v_reads, .int v_quiet, .int v_ones, .int v_last, .int v_heard, .int v_ending, .int v_started, .int v_faulty, .int v_nibbles, .ref a_nibble, .ref a_counts, .int v_ended, .int v_any, .int v_goodSource, .int v_goodLength, .ref a_good])), (a_bits, .inl (cI, 360, .inl bf2))]) D) (by decide) rfl ?_
  intro p e s m args below meth c A Q R H locs hR hQ hx hb hml hr hts hown hlocks hin hP hD hE hT hA hS
  have hK := hE.1
  have hl := lv_entry ([.ref h0, .int (nI w)]) (n := 3) (Nat.le_of_ble_eq_true rfl)
  rw [lg_entry_eq]
  generalize (lg_sl ([.ref h0, .int (nI w)]) ++ List.replicate (3 - (lg_sl ([.ref h0, .int (nI w)])).length) Slot.unset).toArray = ls at hl ⊢
  have hl : lv_has ls 3 [(0, .ref h0), (1, .int (nI w))] := hl
  refine lv_iconst (v := nI 4) hx hb dX8_lay_0 rfl ?_
  refine lv_istore_n (lv' := [(2, .int (nI 4)), (0, .ref h0), (1, .int (nI w))]) hx hb dX8_lay_1 rfl hl (by decide) rfl (fun ls hl => ?_)
  refine lv_iload_n hx hb dX8_lay_2 rfl (lv_at hl 0 rfl) ?_
  refine lv_if_lt (tgt := 36) hx hb dX8_lay_3 (by decide) (fun c3 => ?_) (fun c3 => ?_)
  · skip
    
    exact absurd c3 (by decide)
  · skip
    
    refine lv_aload_n hx hb dX8_lay_6 rfl (lv_at hl 1 rfl) ?_
    refine va_get (D := D) (ci := 8) (v := .ref a_bits) (C := RX8) (T := TX8) (N := 38) hx hb hts inX8_lay_X8 hown hK hP 0 rfl rfl 8 (by decide) (hts (.fieldLink RX8 16 "ScrambledLineModel" "bits" "[I") (by decide +kernel)) (fun _ h9 => h9) rfl dX8_lay_7 ?_
    refine lv_aload_n hx hb dX8_lay_10 rfl (lv_at hl 1 rfl) ?_
    refine va_get (D := D) (ci := 8) (v := .int (nI bc)) (C := RX8) (T := TX8) (N := 38) hx hb hts inX8_lay_X8 hown hK hP 0 rfl rfl 6 (by decide) (hts (.fieldLink RX8 62 "ScrambledLineModel" "bitCount" "I") (by decide +kernel)) (fun _ h9 => h9) rfl dX8_lay_11 ?_
    refine lv_iload_n hx hb dX8_lay_14 rfl (lv_at hl 2 rfl) ?_
    refine lv_iload_n hx hb dX8_lay_15 rfl (lv_at hl 0 rfl) ?_
    refine lv_ishr hx hb dX8_lay_16 ?_
    refine lv_to (y := nI (w / 16)) (pk_shrN (n := w) (by omega) _ 4 rfl) ?_
    refine lv_iconst (v := nI 1) hx hb dX8_lay_17 rfl ?_
    refine lv_iand hx hb dX8_lay_18 ?_
    refine lv_to (y := nI ((w / 16) % 2)) (pk_andN (by omega) 1 rfl) ?_
    refine gs_i hx hb hK hP hD hS 1 rfl (i := bc) (x := nI ((w / 16) % 2)) (by omega) (by first | decide | omega) dX8_lay_19 (fun H locs hP hD hS => ?_)
    have hP : va_P D vwCl [(h0, .inr (8, [.int v_ownSource, .int v_ownTarget, .int v_given, .ref a_gift, .int v_frames, .ref a_queue, .int (nI bc), .int v_bitAt, .ref a_bits, .int v_inFrame, .int v_idle, .int v_register, .int v_phase, .int v_size, .ref a_bytes, .int v_now, .ref a_hitTime, .ref a_hitLevel, .int v_got, .int v_ear, .int v_run, .int v_locked, .int v_reads, .int v_quiet, .int v_ones, .int v_last, .int v_heard, .int v_ending, .int v_started, .int v_faulty, .int v_nibbles, .ref a_nibble, .ref a_counts, .int v_ended, .int v_any, .int v_goodSource, .int v_goodLength, .ref a_good])), (a_bits, .inl (cI, 360, .inl (upd bf bc (nI ((w / 16) % 2)))))] H := hP
    have hD : va_D A [(h0, .inr (8, [.int v_ownSource, .int v_ownTarget, .int v_given, .ref a_gift, .int v_frames, .ref a_queue, .int (nI bc), .int v_bitAt, .ref a_bits, .int v_inFrame, .int v_idle, .int v_register, .int v_phase, .int v_size, .ref a_bytes, .int v_now, .ref a_hitTime, .ref a_hitLevel, .int v_got, .int v_ear, .int v_run, .int v_locked, .int v_reads, .int v_quiet, .int v_ones, .int v_last, .int v_heard, .int v_ending, .int v_started, .int v_faulty, .int v_nibbles, .ref a_nibble, .ref a_counts, .int v_ended, .int v_any, .int v_goodSource, .int v_goodLength, .ref a_good])), (a_bits, .inl (cI, 360, .inl (upd bf bc (nI ((w / 16) % 2)))))] := hD
    refine lv_aload_n hx hb dX8_lay_20 rfl (lv_at hl 1 rfl) ?_
    refine lv_dup hx hb dX8_lay_21 rfl ?_
    refine va_get (D := D) (ci := 8) (v := .int (nI bc)) (C := RX8) (T := TX8) (N := 38) hx hb hts inX8_lay_X8 hown hK hP 0 rfl rfl 6 (by decide) (hts (.fieldLink RX8 62 "ScrambledLineModel" "bitCount" "I") (by decide +kernel)) (fun _ h9 => h9) rfl dX8_lay_22 ?_
    refine lv_iconst (v := nI 1) hx hb dX8_lay_25 rfl ?_
    refine lv_iadd hx hb dX8_lay_26 ?_
    refine lv_to (y := nI (bc + 1)) (nI_add bc 1) ?_
    refine va_put (D := D) (ci := 8) (v := .int (nI (bc + 1))) (ty := .int) (C := RX8) (T := TX8) (N := 38) hx hb hts inX8_lay_X8 tyX8 tyX8_ok nmX8 hown hK hP hD hS 0 rfl rfl 6 (by decide) (hts (.fieldLink RX8 62 "ScrambledLineModel" "bitCount" "I") (by decide +kernel)) (fun _ h9 => h9) rfl (by decide +kernel) rfl rfl (Nat.le_of_ble_eq_true rfl) dX8_lay_27 (fun H locs hP hD hS => ?_)
    have hP : va_P D vwCl [(h0, .inr (8, [.int v_ownSource, .int v_ownTarget, .int v_given, .ref a_gift, .int v_frames, .ref a_queue, .int (nI (bc + 1)), .int v_bitAt, .ref a_bits, .int v_inFrame, .int v_idle, .int v_register, .int v_phase, .int v_size, .ref a_bytes, .int v_now, .ref a_hitTime, .ref a_hitLevel, .int v_got, .int v_ear, .int v_run, .int v_locked, .int v_reads, .int v_quiet, .int v_ones, .int v_last, .int v_heard, .int v_ending, .int v_started, .int v_faulty, .int v_nibbles, .ref a_nibble, .ref a_counts, .int v_ended, .int v_any, .int v_goodSource, .int v_goodLength, .ref a_good])), (a_bits, .inl (cI, 360, .inl (upd bf bc (nI ((w / 16) % 2)))))] H := hP
    have hD : va_D A [(h0, .inr (8, [.int v_ownSource, .int v_ownTarget, .int v_given, .ref a_gift, .int v_frames, .ref a_queue, .int (nI (bc + 1)), .int v_bitAt, .ref a_bits, .int v_inFrame, .int v_idle, .int v_register, .int v_phase, .int v_size, .ref a_bytes, .int v_now, .ref a_hitTime, .ref a_hitLevel, .int v_got, .int v_ear, .int v_run, .int v_locked, .int v_reads, .int v_quiet, .int v_ones, .int v_last, .int v_heard, .int v_ending, .int v_started, .int v_faulty, .int v_nibbles, .ref a_nibble, .ref a_counts, .int v_ended, .int v_any, .int v_goodSource, .int v_goodLength, .ref a_good])), (a_bits, .inl (cI, 360, .inl (upd bf bc (nI ((w / 16) % 2)))))] := hD
    refine lv_iinc (v := nI 3) (lv' := [(2, .int (nI 3)), (0, .ref h0), (1, .int (nI w))]) hx hb dX8_lay_30 hl (k := 0) rfl (rfl) (by decide) rfl (fun ls hl => ?_)
    refine lv_goto (tgt := 2) hx hb dX8_lay_33 (by decide) ?_
    refine lv_iload_n hx hb dX8_lay_2 rfl (lv_at hl 0 rfl) ?_
    refine lv_if_lt (tgt := 36) hx hb dX8_lay_3 (by decide) (fun c3 => ?_) (fun c3 => ?_)
    · skip
      
      exact absurd c3 (by decide)
    · skip
      
      refine lv_aload_n hx hb dX8_lay_6 rfl (lv_at hl 1 rfl) ?_
      refine va_get (D := D) (ci := 8) (v := .ref a_bits) (C := RX8) (T := TX8) (N := 38) hx hb hts inX8_lay_X8 hown hK hP 0 rfl rfl 8 (by decide) (hts (.fieldLink RX8 16 "ScrambledLineModel" "bits" "[I") (by decide +kernel)) (fun _ h9 => h9) rfl dX8_lay_7 ?_
      refine lv_aload_n hx hb dX8_lay_10 rfl (lv_at hl 1 rfl) ?_
      refine va_get (D := D) (ci := 8) (v := .int (nI (bc + 1))) (C := RX8) (T := TX8) (N := 38) hx hb hts inX8_lay_X8 hown hK hP 0 rfl rfl 6 (by decide) (hts (.fieldLink RX8 62 "ScrambledLineModel" "bitCount" "I") (by decide +kernel)) (fun _ h9 => h9) rfl dX8_lay_11 ?_
      refine lv_iload_n hx hb dX8_lay_14 rfl (lv_at hl 2 rfl) ?_
      refine lv_iload_n hx hb dX8_lay_15 rfl (lv_at hl 0 rfl) ?_
      refine lv_ishr hx hb dX8_lay_16 ?_
      refine lv_to (y := nI (w / 8)) (pk_shrN (n := w) (by omega) _ 3 rfl) ?_
      refine lv_iconst (v := nI 1) hx hb dX8_lay_17 rfl ?_
      refine lv_iand hx hb dX8_lay_18 ?_
      refine lv_to (y := nI ((w / 8) % 2)) (pk_andN (by omega) 1 rfl) ?_
      refine gs_i hx hb hK hP hD hS 1 rfl (i := (bc + 1)) (x := nI ((w / 8) % 2)) (by omega) (by first | decide | omega) dX8_lay_19 (fun H locs hP hD hS => ?_)
      have hP : va_P D vwCl [(h0, .inr (8, [.int v_ownSource, .int v_ownTarget, .int v_given, .ref a_gift, .int v_frames, .ref a_queue, .int (nI (bc + 1)), .int v_bitAt, .ref a_bits, .int v_inFrame, .int v_idle, .int v_register, .int v_phase, .int v_size, .ref a_bytes, .int v_now, .ref a_hitTime, .ref a_hitLevel, .int v_got, .int v_ear, .int v_run, .int v_locked, .int v_reads, .int v_quiet, .int v_ones, .int v_last, .int v_heard, .int v_ending, .int v_started, .int v_faulty, .int v_nibbles, .ref a_nibble, .ref a_counts, .int v_ended, .int v_any, .int v_goodSource, .int v_goodLength, .ref a_good])), (a_bits, .inl (cI, 360, .inl (upd (upd bf bc (nI ((w / 16) % 2))) (bc + 1) (nI ((w / 8) % 2)))))] H := hP
      have hD : va_D A [(h0, .inr (8, [.int v_ownSource, .int v_ownTarget, .int v_given, .ref a_gift, .int v_frames, .ref a_queue, .int (nI (bc + 1)), .int v_bitAt, .ref a_bits, .int v_inFrame, .int v_idle, .int v_register, .int v_phase, .int v_size, .ref a_bytes, .int v_now, .ref a_hitTime, .ref a_hitLevel, .int v_got, .int v_ear, .int v_run, .int v_locked, .int v_reads, .int v_quiet, .int v_ones, .int v_last, .int v_heard, .int v_ending, .int v_started, .int v_faulty, .int v_nibbles, .ref a_nibble, .ref a_counts, .int v_ended, .int v_any, .int v_goodSource, .int v_goodLength, .ref a_good])), (a_bits, .inl (cI, 360, .inl (upd (upd bf bc (nI ((w / 16) % 2))) (bc + 1) (nI ((w / 8) % 2)))))] := hD
      refine lv_aload_n hx hb dX8_lay_20 rfl (lv_at hl 1 rfl) ?_
      refine lv_dup hx hb dX8_lay_21 rfl ?_
      refine va_get (D := D) (ci := 8) (v := .int (nI (bc + 1))) (C := RX8) (T := TX8) (N := 38) hx hb hts inX8_lay_X8 hown hK hP 0 rfl rfl 6 (by decide) (hts (.fieldLink RX8 62 "ScrambledLineModel" "bitCount" "I") (by decide +kernel)) (fun _ h9 => h9) rfl dX8_lay_22 ?_
      refine lv_iconst (v := nI 1) hx hb dX8_lay_25 rfl ?_
      refine lv_iadd hx hb dX8_lay_26 ?_
      refine lv_to (y := nI ((bc + 1) + 1)) (nI_add (bc + 1) 1) ?_
      refine va_put (D := D) (ci := 8) (v := .int (nI ((bc + 1) + 1))) (ty := .int) (C := RX8) (T := TX8) (N := 38) hx hb hts inX8_lay_X8 tyX8 tyX8_ok nmX8 hown hK hP hD hS 0 rfl rfl 6 (by decide) (hts (.fieldLink RX8 62 "ScrambledLineModel" "bitCount" "I") (by decide +kernel)) (fun _ h9 => h9) rfl (by decide +kernel) rfl rfl (Nat.le_of_ble_eq_true rfl) dX8_lay_27 (fun H locs hP hD hS => ?_)
      have hP : va_P D vwCl [(h0, .inr (8, [.int v_ownSource, .int v_ownTarget, .int v_given, .ref a_gift, .int v_frames, .ref a_queue, .int (nI ((bc + 1) + 1)), .int v_bitAt, .ref a_bits, .int v_inFrame, .int v_idle, .int v_register, .int v_phase, .int v_size, .ref a_bytes, .int v_now, .ref a_hitTime, .ref a_hitLevel, .int v_got, .int v_ear, .int v_run, .int v_locked, .int v_reads, .int v_quiet, .int v_ones, .int v_last, .int v_heard, .int v_ending, .int v_started, .int v_faulty, .int v_nibbles, .ref a_nibble, .ref a_counts, .int v_ended, .int v_any, .int v_goodSource, .int v_goodLength, .ref a_good])), (a_bits, .inl (cI, 360, .inl (upd (upd bf bc (nI ((w / 16) % 2))) (bc + 1) (nI ((w / 8) % 2)))))] H := hP
      have hD : va_D A [(h0, .inr (8, [.int v_ownSource, .int v_ownTarget, .int v_given, .ref a_gift, .int v_frames, .ref a_queue, .int (nI ((bc + 1) + 1)), .int v_bitAt, .ref a_bits, .int v_inFrame, .int v_idle, .int v_register, .int v_phase, .int v_size, .ref a_bytes, .int v_now, .ref a_hitTime, .ref a_hitLevel, .int v_got, .int v_ear, .int v_run, .int v_locked, .int v_reads, .int v_quiet, .int v_ones, .int v_last, .int v_heard, .int v_ending, .int v_started, .int v_faulty, .int v_nibbles, .ref a_nibble, .ref a_counts, .int v_ended, .int v_any, .int v_goodSource, .int v_goodLength, .ref a_good])), (a_bits, .inl (cI, 360, .inl (upd (upd bf bc (nI ((w / 16) % 2))) (bc + 1) (nI ((w / 8) % 2)))))] := hD
      refine lv_iinc (v := nI 2) (lv' := [(2, .int (nI 2)), (0, .ref h0), (1, .int (nI w))]) hx hb dX8_lay_30 hl (k := 0) rfl (rfl) (by decide) rfl (fun ls hl => ?_)
      refine lv_goto (tgt := 2) hx hb dX8_lay_33 (by decide) ?_
      refine lv_iload_n hx hb dX8_lay_2 rfl (lv_at hl 0 rfl) ?_
      refine lv_if_lt (tgt := 36) hx hb dX8_lay_3 (by decide) (fun c3 => ?_) (fun c3 => ?_)
      · skip
        
        exact absurd c3 (by decide)
      · skip
        
        refine lv_aload_n hx hb dX8_lay_6 rfl (lv_at hl 1 rfl) ?_
        refine va_get (D := D) (ci := 8) (v := .ref a_bits) (C := RX8) (T := TX8) (N := 38) hx hb hts inX8_lay_X8 hown hK hP 0 rfl rfl 8 (by decide) (hts (.fieldLink RX8 16 "ScrambledLineModel" "bits" "[I") (by decide +kernel)) (fun _ h9 => h9) rfl dX8_lay_7 ?_
        refine lv_aload_n hx hb dX8_lay_10 rfl (lv_at hl 1 rfl) ?_
        refine va_get (D := D) (ci := 8) (v := .int (nI ((bc + 1) + 1))) (C := RX8) (T := TX8) (N := 38) hx hb hts inX8_lay_X8 hown hK hP 0 rfl rfl 6 (by decide) (hts (.fieldLink RX8 62 "ScrambledLineModel" "bitCount" "I") (by decide +kernel)) (fun _ h9 => h9) rfl dX8_lay_11 ?_
        refine lv_iload_n hx hb dX8_lay_14 rfl (lv_at hl 2 rfl) ?_
        refine lv_iload_n hx hb dX8_lay_15 rfl (lv_at hl 0 rfl) ?_
        refine lv_ishr hx hb dX8_lay_16 ?_
        refine lv_to (y := nI (w / 4)) (pk_shrN (n := w) (by omega) _ 2 rfl) ?_
        refine lv_iconst (v := nI 1) hx hb dX8_lay_17 rfl ?_
        refine lv_iand hx hb dX8_lay_18 ?_
        refine lv_to (y := nI ((w / 4) % 2)) (pk_andN (by omega) 1 rfl) ?_
        refine gs_i hx hb hK hP hD hS 1 rfl (i := ((bc + 1) + 1)) (x := nI ((w / 4) % 2)) (by omega) (by first | decide | omega) dX8_lay_19 (fun H locs hP hD hS => ?_)
        have hP : va_P D vwCl [(h0, .inr (8, [.int v_ownSource, .int v_ownTarget, .int v_given, .ref a_gift, .int v_frames, .ref a_queue, .int (nI ((bc + 1) + 1)), .int v_bitAt, .ref a_bits, .int v_inFrame, .int v_idle, .int v_register, .int v_phase, .int v_size, .ref a_bytes, .int v_now, .ref a_hitTime, .ref a_hitLevel, .int v_got, .int v_ear, .int v_run, .int v_locked, .int v_reads, .int v_quiet, .int v_ones, .int v_last, .int v_heard, .int v_ending, .int v_started, .int v_faulty, .int v_nibbles, .ref a_nibble, .ref a_counts, .int v_ended, .int v_any, .int v_goodSource, .int v_goodLength, .ref a_good])), (a_bits, .inl (cI, 360, .inl (upd (upd (upd bf bc (nI ((w / 16) % 2))) (bc + 1) (nI ((w / 8) % 2))) ((bc + 1) + 1) (nI ((w / 4) % 2)))))] H := hP
        have hD : va_D A [(h0, .inr (8, [.int v_ownSource, .int v_ownTarget, .int v_given, .ref a_gift, .int v_frames, .ref a_queue, .int (nI ((bc + 1) + 1)), .int v_bitAt, .ref a_bits, .int v_inFrame, .int v_idle, .int v_register, .int v_phase, .int v_size, .ref a_bytes, .int v_now, .ref a_hitTime, .ref a_hitLevel, .int v_got, .int v_ear, .int v_run, .int v_locked, .int v_reads, .int v_quiet, .int v_ones, .int v_last, .int v_heard, .int v_ending, .int v_started, .int v_faulty, .int v_nibbles, .ref a_nibble, .ref a_counts, .int v_ended, .int v_any, .int v_goodSource, .int v_goodLength, .ref a_good])), (a_bits, .inl (cI, 360, .inl (upd (upd (upd bf bc (nI ((w / 16) % 2))) (bc + 1) (nI ((w / 8) % 2))) ((bc + 1) + 1) (nI ((w / 4) % 2)))))] := hD
        refine lv_aload_n hx hb dX8_lay_20 rfl (lv_at hl 1 rfl) ?_
        refine lv_dup hx hb dX8_lay_21 rfl ?_
        refine va_get (D := D) (ci := 8) (v := .int (nI ((bc + 1) + 1))) (C := RX8) (T := TX8) (N := 38) hx hb hts inX8_lay_X8 hown hK hP 0 rfl rfl 6 (by decide) (hts (.fieldLink RX8 62 "ScrambledLineModel" "bitCount" "I") (by decide +kernel)) (fun _ h9 => h9) rfl dX8_lay_22 ?_
        refine lv_iconst (v := nI 1) hx hb dX8_lay_25 rfl ?_
        refine lv_iadd hx hb dX8_lay_26 ?_
        refine lv_to (y := nI (((bc + 1) + 1) + 1)) (nI_add ((bc + 1) + 1) 1) ?_
        refine va_put (D := D) (ci := 8) (v := .int (nI (((bc + 1) + 1) + 1))) (ty := .int) (C := RX8) (T := TX8) (N := 38) hx hb hts inX8_lay_X8 tyX8 tyX8_ok nmX8 hown hK hP hD hS 0 rfl rfl 6 (by decide) (hts (.fieldLink RX8 62 "ScrambledLineModel" "bitCount" "I") (by decide +kernel)) (fun _ h9 => h9) rfl (by decide +kernel) rfl rfl (Nat.le_of_ble_eq_true rfl) dX8_lay_27 (fun H locs hP hD hS => ?_)
        have hP : va_P D vwCl [(h0, .inr (8, [.int v_ownSource, .int v_ownTarget, .int v_given, .ref a_gift, .int v_frames, .ref a_queue, .int (nI (((bc + 1) + 1) + 1)), .int v_bitAt, .ref a_bits, .int v_inFrame, .int v_idle, .int v_register, .int v_phase, .int v_size, .ref a_bytes, .int v_now, .ref a_hitTime, .ref a_hitLevel, .int v_got, .int v_ear, .int v_run, .int v_locked, .int v_reads, .int v_quiet, .int v_ones, .int v_last, .int v_heard, .int v_ending, .int v_started, .int v_faulty, .int v_nibbles, .ref a_nibble, .ref a_counts, .int v_ended, .int v_any, .int v_goodSource, .int v_goodLength, .ref a_good])), (a_bits, .inl (cI, 360, .inl (upd (upd (upd bf bc (nI ((w / 16) % 2))) (bc + 1) (nI ((w / 8) % 2))) ((bc + 1) + 1) (nI ((w / 4) % 2)))))] H := hP
        have hD : va_D A [(h0, .inr (8, [.int v_ownSource, .int v_ownTarget, .int v_given, .ref a_gift, .int v_frames, .ref a_queue, .int (nI (((bc + 1) + 1) + 1)), .int v_bitAt, .ref a_bits, .int v_inFrame, .int v_idle, .int v_register, .int v_phase, .int v_size, .ref a_bytes, .int v_now, .ref a_hitTime, .ref a_hitLevel, .int v_got, .int v_ear, .int v_run, .int v_locked, .int v_reads, .int v_quiet, .int v_ones, .int v_last, .int v_heard, .int v_ending, .int v_started, .int v_faulty, .int v_nibbles, .ref a_nibble, .ref a_counts, .int v_ended, .int v_any, .int v_goodSource, .int v_goodLength, .ref a_good])), (a_bits, .inl (cI, 360, .inl (upd (upd (upd bf bc (nI ((w / 16) % 2))) (bc + 1) (nI ((w / 8) % 2))) ((bc + 1) + 1) (nI ((w / 4) % 2)))))] := hD
        refine lv_iinc (v := nI 1) (lv' := [(2, .int (nI 1)), (0, .ref h0), (1, .int (nI w))]) hx hb dX8_lay_30 hl (k := 0) rfl (rfl) (by decide) rfl (fun ls hl => ?_)
        refine lv_goto (tgt := 2) hx hb dX8_lay_33 (by decide) ?_
        refine lv_iload_n hx hb dX8_lay_2 rfl (lv_at hl 0 rfl) ?_
        refine lv_if_lt (tgt := 36) hx hb dX8_lay_3 (by decide) (fun c3 => ?_) (fun c3 => ?_)
        · skip
          
          exact absurd c3 (by decide)
        · skip
          
          refine lv_aload_n hx hb dX8_lay_6 rfl (lv_at hl 1 rfl) ?_
          refine va_get (D := D) (ci := 8) (v := .ref a_bits) (C := RX8) (T := TX8) (N := 38) hx hb hts inX8_lay_X8 hown hK hP 0 rfl rfl 8 (by decide) (hts (.fieldLink RX8 16 "ScrambledLineModel" "bits" "[I") (by decide +kernel)) (fun _ h9 => h9) rfl dX8_lay_7 ?_
          refine lv_aload_n hx hb dX8_lay_10 rfl (lv_at hl 1 rfl) ?_
          refine va_get (D := D) (ci := 8) (v := .int (nI (((bc + 1) + 1) + 1))) (C := RX8) (T := TX8) (N := 38) hx hb hts inX8_lay_X8 hown hK hP 0 rfl rfl 6 (by decide) (hts (.fieldLink RX8 62 "ScrambledLineModel" "bitCount" "I") (by decide +kernel)) (fun _ h9 => h9) rfl dX8_lay_11 ?_
          refine lv_iload_n hx hb dX8_lay_14 rfl (lv_at hl 2 rfl) ?_
          refine lv_iload_n hx hb dX8_lay_15 rfl (lv_at hl 0 rfl) ?_
          refine lv_ishr hx hb dX8_lay_16 ?_
          refine lv_to (y := nI (w / 2)) (pk_shrN (n := w) (by omega) _ 1 rfl) ?_
          refine lv_iconst (v := nI 1) hx hb dX8_lay_17 rfl ?_
          refine lv_iand hx hb dX8_lay_18 ?_
          refine lv_to (y := nI ((w / 2) % 2)) (pk_andN (by omega) 1 rfl) ?_
          refine gs_i hx hb hK hP hD hS 1 rfl (i := (((bc + 1) + 1) + 1)) (x := nI ((w / 2) % 2)) (by omega) (by first | decide | omega) dX8_lay_19 (fun H locs hP hD hS => ?_)
          have hP : va_P D vwCl [(h0, .inr (8, [.int v_ownSource, .int v_ownTarget, .int v_given, .ref a_gift, .int v_frames, .ref a_queue, .int (nI (((bc + 1) + 1) + 1)), .int v_bitAt, .ref a_bits, .int v_inFrame, .int v_idle, .int v_register, .int v_phase, .int v_size, .ref a_bytes, .int v_now, .ref a_hitTime, .ref a_hitLevel, .int v_got, .int v_ear, .int v_run, .int v_locked, .int v_reads, .int v_quiet, .int v_ones, .int v_last, .int v_heard, .int v_ending, .int v_started, .int v_faulty, .int v_nibbles, .ref a_nibble, .ref a_counts, .int v_ended, .int v_any, .int v_goodSource, .int v_goodLength, .ref a_good])), (a_bits, .inl (cI, 360, .inl (upd (upd (upd (upd bf bc (nI ((w / 16) % 2))) (bc + 1) (nI ((w / 8) % 2))) ((bc + 1) + 1) (nI ((w / 4) % 2))) (((bc + 1) + 1) + 1) (nI ((w / 2) % 2)))))] H := hP
          have hD : va_D A [(h0, .inr (8, [.int v_ownSource, .int v_ownTarget, .int v_given, .ref a_gift, .int v_frames, .ref a_queue, .int (nI (((bc + 1) + 1) + 1)), .int v_bitAt, .ref a_bits, .int v_inFrame, .int v_idle, .int v_register, .int v_phase, .int v_size, .ref a_bytes, .int v_now, .ref a_hitTime, .ref a_hitLevel, .int v_got, .int v_ear, .int v_run, .int v_locked, .int v_reads, .int v_quiet, .int v_ones, .int v_last, .int v_heard, .int v_ending, .int v_started, .int v_faulty, .int v_nibbles, .ref a_nibble, .ref a_counts, .int v_ended, .int v_any, .int v_goodSource, .int v_goodLength, .ref a_good])), (a_bits, .inl (cI, 360, .inl (upd (upd (upd (upd bf bc (nI ((w / 16) % 2))) (bc + 1) (nI ((w / 8) % 2))) ((bc + 1) + 1) (nI ((w / 4) % 2))) (((bc + 1) + 1) + 1) (nI ((w / 2) % 2)))))] := hD
          refine lv_aload_n hx hb dX8_lay_20 rfl (lv_at hl 1 rfl) ?_
          refine lv_dup hx hb dX8_lay_21 rfl ?_
          refine va_get (D := D) (ci := 8) (v := .int (nI (((bc + 1) + 1) + 1))) (C := RX8) (T := TX8) (N := 38) hx hb hts inX8_lay_X8 hown hK hP 0 rfl rfl 6 (by decide) (hts (.fieldLink RX8 62 "ScrambledLineModel" "bitCount" "I") (by decide +kernel)) (fun _ h9 => h9) rfl dX8_lay_22 ?_
          refine lv_iconst (v := nI 1) hx hb dX8_lay_25 rfl ?_
          refine lv_iadd hx hb dX8_lay_26 ?_
          refine lv_to (y := nI ((((bc + 1) + 1) + 1) + 1)) (nI_add (((bc + 1) + 1) + 1) 1) ?_
          refine va_put (D := D) (ci := 8) (v := .int (nI ((((bc + 1) + 1) + 1) + 1))) (ty := .int) (C := RX8) (T := TX8) (N := 38) hx hb hts inX8_lay_X8 tyX8 tyX8_ok nmX8 hown hK hP hD hS 0 rfl rfl 6 (by decide) (hts (.fieldLink RX8 62 "ScrambledLineModel" "bitCount" "I") (by decide +kernel)) (fun _ h9 => h9) rfl (by decide +kernel) rfl rfl (Nat.le_of_ble_eq_true rfl) dX8_lay_27 (fun H locs hP hD hS => ?_)
          have hP : va_P D vwCl [(h0, .inr (8, [.int v_ownSource, .int v_ownTarget, .int v_given, .ref a_gift, .int v_frames, .ref a_queue, .int (nI ((((bc + 1) + 1) + 1) + 1)), .int v_bitAt, .ref a_bits, .int v_inFrame, .int v_idle, .int v_register, .int v_phase, .int v_size, .ref a_bytes, .int v_now, .ref a_hitTime, .ref a_hitLevel, .int v_got, .int v_ear, .int v_run, .int v_locked, .int v_reads, .int v_quiet, .int v_ones, .int v_last, .int v_heard, .int v_ending, .int v_started, .int v_faulty, .int v_nibbles, .ref a_nibble, .ref a_counts, .int v_ended, .int v_any, .int v_goodSource, .int v_goodLength, .ref a_good])), (a_bits, .inl (cI, 360, .inl (upd (upd (upd (upd bf bc (nI ((w / 16) % 2))) (bc + 1) (nI ((w / 8) % 2))) ((bc + 1) + 1) (nI ((w / 4) % 2))) (((bc + 1) + 1) + 1) (nI ((w / 2) % 2)))))] H := hP
          have hD : va_D A [(h0, .inr (8, [.int v_ownSource, .int v_ownTarget, .int v_given, .ref a_gift, .int v_frames, .ref a_queue, .int (nI ((((bc + 1) + 1) + 1) + 1)), .int v_bitAt, .ref a_bits, .int v_inFrame, .int v_idle, .int v_register, .int v_phase, .int v_size, .ref a_bytes, .int v_now, .ref a_hitTime, .ref a_hitLevel, .int v_got, .int v_ear, .int v_run, .int v_locked, .int v_reads, .int v_quiet, .int v_ones, .int v_last, .int v_heard, .int v_ending, .int v_started, .int v_faulty, .int v_nibbles, .ref a_nibble, .ref a_counts, .int v_ended, .int v_any, .int v_goodSource, .int v_goodLength, .ref a_good])), (a_bits, .inl (cI, 360, .inl (upd (upd (upd (upd bf bc (nI ((w / 16) % 2))) (bc + 1) (nI ((w / 8) % 2))) ((bc + 1) + 1) (nI ((w / 4) % 2))) (((bc + 1) + 1) + 1) (nI ((w / 2) % 2)))))] := hD
          refine lv_iinc (v := nI 0) (lv' := [(2, .int (nI 0)), (0, .ref h0), (1, .int (nI w))]) hx hb dX8_lay_30 hl (k := 0) rfl (rfl) (by decide) rfl (fun ls hl => ?_)
          refine lv_goto (tgt := 2) hx hb dX8_lay_33 (by decide) ?_
          refine lv_iload_n hx hb dX8_lay_2 rfl (lv_at hl 0 rfl) ?_
          refine lv_if_lt (tgt := 36) hx hb dX8_lay_3 (by decide) (fun c3 => ?_) (fun c3 => ?_)
          · skip
            
            exact absurd c3 (by decide)
          · skip
            
            refine lv_aload_n hx hb dX8_lay_6 rfl (lv_at hl 1 rfl) ?_
            refine va_get (D := D) (ci := 8) (v := .ref a_bits) (C := RX8) (T := TX8) (N := 38) hx hb hts inX8_lay_X8 hown hK hP 0 rfl rfl 8 (by decide) (hts (.fieldLink RX8 16 "ScrambledLineModel" "bits" "[I") (by decide +kernel)) (fun _ h9 => h9) rfl dX8_lay_7 ?_
            refine lv_aload_n hx hb dX8_lay_10 rfl (lv_at hl 1 rfl) ?_
            refine va_get (D := D) (ci := 8) (v := .int (nI ((((bc + 1) + 1) + 1) + 1))) (C := RX8) (T := TX8) (N := 38) hx hb hts inX8_lay_X8 hown hK hP 0 rfl rfl 6 (by decide) (hts (.fieldLink RX8 62 "ScrambledLineModel" "bitCount" "I") (by decide +kernel)) (fun _ h9 => h9) rfl dX8_lay_11 ?_
            refine lv_iload_n hx hb dX8_lay_14 rfl (lv_at hl 2 rfl) ?_
            refine lv_iload_n hx hb dX8_lay_15 rfl (lv_at hl 0 rfl) ?_
            refine lv_ishr hx hb dX8_lay_16 ?_
            refine lv_to (y := nI (w / 1)) (pk_shrN (n := w) (by omega) _ 0 rfl) ?_
            refine lv_iconst (v := nI 1) hx hb dX8_lay_17 rfl ?_
            refine lv_iand hx hb dX8_lay_18 ?_
            refine lv_to (y := nI ((w / 1) % 2)) (pk_andN (by omega) 1 rfl) ?_
            refine gs_i hx hb hK hP hD hS 1 rfl (i := ((((bc + 1) + 1) + 1) + 1)) (x := nI ((w / 1) % 2)) (by omega) (by first | decide | omega) dX8_lay_19 (fun H locs hP hD hS => ?_)
            have hP : va_P D vwCl [(h0, .inr (8, [.int v_ownSource, .int v_ownTarget, .int v_given, .ref a_gift, .int v_frames, .ref a_queue, .int (nI ((((bc + 1) + 1) + 1) + 1)), .int v_bitAt, .ref a_bits, .int v_inFrame, .int v_idle, .int v_register, .int v_phase, .int v_size, .ref a_bytes, .int v_now, .ref a_hitTime, .ref a_hitLevel, .int v_got, .int v_ear, .int v_run, .int v_locked, .int v_reads, .int v_quiet, .int v_ones, .int v_last, .int v_heard, .int v_ending, .int v_started, .int v_faulty, .int v_nibbles, .ref a_nibble, .ref a_counts, .int v_ended, .int v_any, .int v_goodSource, .int v_goodLength, .ref a_good])), (a_bits, .inl (cI, 360, .inl (upd (upd (upd (upd (upd bf bc (nI ((w / 16) % 2))) (bc + 1) (nI ((w / 8) % 2))) ((bc + 1) + 1) (nI ((w / 4) % 2))) (((bc + 1) + 1) + 1) (nI ((w / 2) % 2))) ((((bc + 1) + 1) + 1) + 1) (nI ((w / 1) % 2)))))] H := hP
            have hD : va_D A [(h0, .inr (8, [.int v_ownSource, .int v_ownTarget, .int v_given, .ref a_gift, .int v_frames, .ref a_queue, .int (nI ((((bc + 1) + 1) + 1) + 1)), .int v_bitAt, .ref a_bits, .int v_inFrame, .int v_idle, .int v_register, .int v_phase, .int v_size, .ref a_bytes, .int v_now, .ref a_hitTime, .ref a_hitLevel, .int v_got, .int v_ear, .int v_run, .int v_locked, .int v_reads, .int v_quiet, .int v_ones, .int v_last, .int v_heard, .int v_ending, .int v_started, .int v_faulty, .int v_nibbles, .ref a_nibble, .ref a_counts, .int v_ended, .int v_any, .int v_goodSource, .int v_goodLength, .ref a_good])), (a_bits, .inl (cI, 360, .inl (upd (upd (upd (upd (upd bf bc (nI ((w / 16) % 2))) (bc + 1) (nI ((w / 8) % 2))) ((bc + 1) + 1) (nI ((w / 4) % 2))) (((bc + 1) + 1) + 1) (nI ((w / 2) % 2))) ((((bc + 1) + 1) + 1) + 1) (nI ((w / 1) % 2)))))] := hD
            refine lv_aload_n hx hb dX8_lay_20 rfl (lv_at hl 1 rfl) ?_
            refine lv_dup hx hb dX8_lay_21 rfl ?_
            refine va_get (D := D) (ci := 8) (v := .int (nI ((((bc + 1) + 1) + 1) + 1))) (C := RX8) (T := TX8) (N := 38) hx hb hts inX8_lay_X8 hown hK hP 0 rfl rfl 6 (by decide) (hts (.fieldLink RX8 62 "ScrambledLineModel" "bitCount" "I") (by decide +kernel)) (fun _ h9 => h9) rfl dX8_lay_22 ?_
            refine lv_iconst (v := nI 1) hx hb dX8_lay_25 rfl ?_
            refine lv_iadd hx hb dX8_lay_26 ?_
            refine lv_to (y := nI (((((bc + 1) + 1) + 1) + 1) + 1)) (nI_add ((((bc + 1) + 1) + 1) + 1) 1) ?_
            refine va_put (D := D) (ci := 8) (v := .int (nI (((((bc + 1) + 1) + 1) + 1) + 1))) (ty := .int) (C := RX8) (T := TX8) (N := 38) hx hb hts inX8_lay_X8 tyX8 tyX8_ok nmX8 hown hK hP hD hS 0 rfl rfl 6 (by decide) (hts (.fieldLink RX8 62 "ScrambledLineModel" "bitCount" "I") (by decide +kernel)) (fun _ h9 => h9) rfl (by decide +kernel) rfl rfl (Nat.le_of_ble_eq_true rfl) dX8_lay_27 (fun H locs hP hD hS => ?_)
            have hP : va_P D vwCl [(h0, .inr (8, [.int v_ownSource, .int v_ownTarget, .int v_given, .ref a_gift, .int v_frames, .ref a_queue, .int (nI (((((bc + 1) + 1) + 1) + 1) + 1)), .int v_bitAt, .ref a_bits, .int v_inFrame, .int v_idle, .int v_register, .int v_phase, .int v_size, .ref a_bytes, .int v_now, .ref a_hitTime, .ref a_hitLevel, .int v_got, .int v_ear, .int v_run, .int v_locked, .int v_reads, .int v_quiet, .int v_ones, .int v_last, .int v_heard, .int v_ending, .int v_started, .int v_faulty, .int v_nibbles, .ref a_nibble, .ref a_counts, .int v_ended, .int v_any, .int v_goodSource, .int v_goodLength, .ref a_good])), (a_bits, .inl (cI, 360, .inl (upd (upd (upd (upd (upd bf bc (nI ((w / 16) % 2))) (bc + 1) (nI ((w / 8) % 2))) ((bc + 1) + 1) (nI ((w / 4) % 2))) (((bc + 1) + 1) + 1) (nI ((w / 2) % 2))) ((((bc + 1) + 1) + 1) + 1) (nI ((w / 1) % 2)))))] H := hP
            have hD : va_D A [(h0, .inr (8, [.int v_ownSource, .int v_ownTarget, .int v_given, .ref a_gift, .int v_frames, .ref a_queue, .int (nI (((((bc + 1) + 1) + 1) + 1) + 1)), .int v_bitAt, .ref a_bits, .int v_inFrame, .int v_idle, .int v_register, .int v_phase, .int v_size, .ref a_bytes, .int v_now, .ref a_hitTime, .ref a_hitLevel, .int v_got, .int v_ear, .int v_run, .int v_locked, .int v_reads, .int v_quiet, .int v_ones, .int v_last, .int v_heard, .int v_ending, .int v_started, .int v_faulty, .int v_nibbles, .ref a_nibble, .ref a_counts, .int v_ended, .int v_any, .int v_goodSource, .int v_goodLength, .ref a_good])), (a_bits, .inl (cI, 360, .inl (upd (upd (upd (upd (upd bf bc (nI ((w / 16) % 2))) (bc + 1) (nI ((w / 8) % 2))) ((bc + 1) + 1) (nI ((w / 4) % 2))) (((bc + 1) + 1) + 1) (nI ((w / 2) % 2))) ((((bc + 1) + 1) + 1) + 1) (nI ((w / 1) % 2)))))] := hD
            refine lv_iinc (v := (-1)) (lv' := [(2, .int (-1)), (0, .ref h0), (1, .int (nI w))]) hx hb dX8_lay_30 hl (k := 0) rfl (rfl) (by decide) rfl (fun ls hl => ?_)
            refine lv_goto (tgt := 2) hx hb dX8_lay_33 (by decide) ?_
            refine lv_iload_n hx hb dX8_lay_2 rfl (lv_at hl 0 rfl) ?_
            refine lv_if_lt (tgt := 36) hx hb dX8_lay_3 (by decide) (fun c3 => ?_) (fun c3 => ?_)
            · skip
              
              refine W_q hQ ?_
              exact rt_v (upd (upd (upd (upd (upd bf bc (nI ((w / 16) % 2))) (bc + 1) (nI ((w / 8) % 2))) ((bc + 1) + 1) (nI ((w / 4) % 2))) (((bc + 1) + 1) + 1) (nI ((w / 2) % 2))) ((((bc + 1) + 1) + 1) + 1) (nI ((w / 1) % 2))) hx hb hr hlocks dX8_lay_36 hS hP hD (LY_5 bf bc w)
            · skip
              
              exact absurd c3 (by decide)

theorem inX8_hunt_X8 : ∀ w ∈ u_ws RX8 TX8 38, w ∈ wsX8_hunt := by decide +kernel
set_option maxHeartbeats 4000000 in
set_option maxRecDepth 100000 in
theorem c_X8_hunt (l : Launch) (D : va_G) (cI cG : ClassId) (tt : Nat × Nat × Nat) (sz : Nat) (h0 : Nat) (a_gift : Nat) (a_queue : Nat) (a_bits : Nat) (a_bytes : Nat) (a_hitTime : Nat) (a_hitLevel : Nat) (a_nibble : Nat) (a_counts : Nat) (a_good : Nat) (v_ownSource : Int32) (v_ownTarget : Int32) (v_given : Int32) (v_frames : Int32) (v_bitCount : Int32) (v_bitAt : Int32) (v_inFrame : Int32) (v_idle : Int32) (v_register : Int32) (v_phase : Int32) (v_size : Int32) (v_now : Int32) (v_got : Int32) (v_ear : Int32) (v_run : Int32) (v_locked : Int32) (v_reads : Int32) (v_quiet : Int32) (v_ones : Int32) (v_last : Int32) (v_heard : Int32) (v_ending : Int32) (v_started : Int32) (v_faulty : Int32) (v_nibbles : Int32) (v_ended : Int32) (v_any : Int32) (v_goodSource : Int32) (v_goodLength : Int32) : Met l yX8_hunt wsX8_hunt ({ frames := 0, cells := 0, slots := 0, locals := 0 }) (PC D cI cG tt [.ref h0] [(h0, .inr (8, [.int v_ownSource, .int v_ownTarget, .int v_given, .ref a_gift, .int v_frames, .ref a_queue, .int v_bitCount, .int v_bitAt, .ref a_bits, .int v_inFrame, .int v_idle, .int v_register, .int v_phase, .int v_size, .ref a_bytes, .int v_now, .ref a_hitTime, .ref a_hitLevel, .int v_got, .int v_ear, .int v_run, .int v_locked, .int v_reads, .int v_quiet, .int v_ones, .int v_last, .int v_heard, .int v_ending, .int v_started, .int v_faulty, .int v_nibbles, .ref a_nibble, .ref a_counts, .int v_ended, .int v_any, .int v_goodSource, .int v_goodLength, .ref a_good]))] sz) (QV (fun (u : Unit) => True) (fun (u : Unit) => [(h0, .inr (8, [.int v_ownSource, .int v_ownTarget, .int v_given, .ref a_gift, .int v_frames, .ref a_queue, .int v_bitCount, .int v_bitAt, .ref a_bits, .int v_inFrame, .int v_idle, .int v_register, .int v_phase, .int v_size, .ref a_bytes, .int v_now, .ref a_hitTime, .ref a_hitLevel, .int v_got, .int v_ear, .int v_run, .int v_locked, .int (nI 0), .int v_quiet, .int v_ones, .int (nI 0), .int (nI 0), .int v_ending, .int v_started, .int v_faulty, .int v_nibbles, .ref a_nibble, .ref a_counts, .int v_ended, .int v_any, .int v_goodSource, .int v_goodLength, .ref a_good]))]) D (va_A [(h0, .inr (8, [.int v_ownSource, .int v_ownTarget, .int v_given, .ref a_gift, .int v_frames, .ref a_queue, .int v_bitCount, .int v_bitAt, .ref a_bits, .int v_inFrame, .int v_idle, .int v_register, .int v_phase, .int v_size, .ref a_bytes, .int v_now, .ref a_hitTime, .ref a_hitLevel, .int v_got, .int v_ear, .int v_run, .int v_locked, .int v_reads, .int v_quiet, .int v_ones, .int v_last, .int v_heard, .int v_ending, .int v_started, .int v_faulty, .int v_nibbles, .ref a_nibble, .ref a_counts, .int v_ended, .int v_any, .int v_goodSource, .int v_goodLength, .ref a_good]))] sz)) 0 0 (va_A [(h0, .inr (8, [.int v_ownSource, .int v_ownTarget, .int v_given, .ref a_gift, .int v_frames, .ref a_queue, .int v_bitCount, .int v_bitAt, .ref a_bits, .int v_inFrame, .int v_idle, .int v_register, .int v_phase, .int v_size, .ref a_bytes, .int v_now, .ref a_hitTime, .ref a_hitLevel, .int v_got, .int v_ear, .int v_run, .int v_locked, .int v_reads, .int v_quiet, .int v_ones, .int v_last, .int v_heard, .int v_ending, .int v_started, .int v_faulty, .int v_nibbles, .ref a_nibble, .ref a_counts, .int v_ended, .int v_any, .int v_goodSource, .int v_goodLength, .ref a_good]))] sz) := by
  refine ct_of (y := yX8_hunt) (cc := cX8_hunt) (maxL := 1) (ret := none) (Qf := QV (fun (u : Unit) => True) (fun (u : Unit) => [(h0, .inr (8, [.int v_ownSource, .int v_ownTarget, .int v_given, .ref a_gift, .int v_frames, .ref a_queue, .int v_bitCount, .int v_bitAt, .ref a_bits, .int v_inFrame, .int v_idle, .int v_register, .int v_phase, .int v_size, .ref a_bytes, .int v_now, .ref a_hitTime, .ref a_hitLevel, .int v_got, .int v_ear, .int v_run, .int v_locked, .int (nI 0), .int v_quiet, .int v_ones, .int (nI 0), .int (nI 0), .int v_ending, .int v_started, .int v_faulty, .int v_nibbles, .ref a_nibble, .ref a_counts, .int v_ended, .int v_any, .int v_goodSource, .int v_goodLength, .ref a_good]))]) D) (by decide) rfl ?_
  intro p e s m args below meth c A Q R H locs hR hQ hx hb hml hr hts hown hlocks hin hP hD hE hT hA hS
  have hK := hE.1
  have hl := lv_entry ([.ref h0]) (n := 1) (Nat.le_of_ble_eq_true rfl)
  rw [lg_entry_eq]
  generalize (lg_sl ([.ref h0]) ++ List.replicate (1 - (lg_sl ([.ref h0])).length) Slot.unset).toArray = ls at hl ⊢
  have hl : lv_has ls 1 [(0, .ref h0)] := hl
  refine lv_aload_n hx hb dX8_hunt_0 rfl (lv_at hl 0 rfl) ?_
  refine lv_iconst (v := nI 0) hx hb dX8_hunt_1 rfl ?_
  refine va_put (D := D) (ci := 8) (v := .int (nI 0)) (ty := .boolean) (C := RX8) (T := TX8) (N := 38) hx hb hts inX8_hunt_X8 tyX8 tyX8_ok nmX8 hown hK hP hD hS 0 rfl rfl 22 (by decide) (hts (.fieldLink RX8 131 "ScrambledLineModel" "reads" "Z") (by decide +kernel)) (fun _ h9 => h9) rfl (by decide +kernel) rfl rfl (Nat.le_of_ble_eq_true rfl) dX8_hunt_2 (fun H locs hP hD hS => ?_)
  have hP : va_P D vwCl [(h0, .inr (8, [.int v_ownSource, .int v_ownTarget, .int v_given, .ref a_gift, .int v_frames, .ref a_queue, .int v_bitCount, .int v_bitAt, .ref a_bits, .int v_inFrame, .int v_idle, .int v_register, .int v_phase, .int v_size, .ref a_bytes, .int v_now, .ref a_hitTime, .ref a_hitLevel, .int v_got, .int v_ear, .int v_run, .int v_locked, .int (nI 0), .int v_quiet, .int v_ones, .int v_last, .int v_heard, .int v_ending, .int v_started, .int v_faulty, .int v_nibbles, .ref a_nibble, .ref a_counts, .int v_ended, .int v_any, .int v_goodSource, .int v_goodLength, .ref a_good]))] H := hP
  have hD : va_D A [(h0, .inr (8, [.int v_ownSource, .int v_ownTarget, .int v_given, .ref a_gift, .int v_frames, .ref a_queue, .int v_bitCount, .int v_bitAt, .ref a_bits, .int v_inFrame, .int v_idle, .int v_register, .int v_phase, .int v_size, .ref a_bytes, .int v_now, .ref a_hitTime, .ref a_hitLevel, .int v_got, .int v_ear, .int v_run, .int v_locked, .int (nI 0), .int v_quiet, .int v_ones, .int v_last, .int v_heard, .int v_ending, .int v_started, .int v_faulty, .int v_nibbles, .ref a_nibble, .ref a_counts, .int v_ended, .int v_any, .int v_goodSource, .int v_goodLength, .ref a_good]))] := hD
  refine lv_aload_n hx hb dX8_hunt_5 rfl (lv_at hl 0 rfl) ?_
  refine lv_iconst (v := nI 0) hx hb dX8_hunt_6 rfl ?_
  refine va_put (D := D) (ci := 8) (v := .int (nI 0)) (ty := .int) (C := RX8) (T := TX8) (N := 38) hx hb hts inX8_hunt_X8 tyX8 tyX8_ok nmX8 hown hK hP hD hS 0 rfl rfl 26 (by decide) (hts (.fieldLink RX8 134 "ScrambledLineModel" "heard" "I") (by decide +kernel)) (fun _ h9 => h9) rfl (by decide +kernel) rfl rfl (Nat.le_of_ble_eq_true rfl) dX8_hunt_7 (fun H locs hP hD hS => ?_)
  have hP : va_P D vwCl [(h0, .inr (8, [.int v_ownSource, .int v_ownTarget, .int v_given, .ref a_gift, .int v_frames, .ref a_queue, .int v_bitCount, .int v_bitAt, .ref a_bits, .int v_inFrame, .int v_idle, .int v_register, .int v_phase, .int v_size, .ref a_bytes, .int v_now, .ref a_hitTime, .ref a_hitLevel, .int v_got, .int v_ear, .int v_run, .int v_locked, .int (nI 0), .int v_quiet, .int v_ones, .int v_last, .int (nI 0), .int v_ending, .int v_started, .int v_faulty, .int v_nibbles, .ref a_nibble, .ref a_counts, .int v_ended, .int v_any, .int v_goodSource, .int v_goodLength, .ref a_good]))] H := hP
  have hD : va_D A [(h0, .inr (8, [.int v_ownSource, .int v_ownTarget, .int v_given, .ref a_gift, .int v_frames, .ref a_queue, .int v_bitCount, .int v_bitAt, .ref a_bits, .int v_inFrame, .int v_idle, .int v_register, .int v_phase, .int v_size, .ref a_bytes, .int v_now, .ref a_hitTime, .ref a_hitLevel, .int v_got, .int v_ear, .int v_run, .int v_locked, .int (nI 0), .int v_quiet, .int v_ones, .int v_last, .int (nI 0), .int v_ending, .int v_started, .int v_faulty, .int v_nibbles, .ref a_nibble, .ref a_counts, .int v_ended, .int v_any, .int v_goodSource, .int v_goodLength, .ref a_good]))] := hD
  refine lv_aload_n hx hb dX8_hunt_10 rfl (lv_at hl 0 rfl) ?_
  refine lv_iconst (v := nI 0) hx hb dX8_hunt_11 rfl ?_
  refine va_put (D := D) (ci := 8) (v := .int (nI 0)) (ty := .int) (C := RX8) (T := TX8) (N := 38) hx hb hts inX8_hunt_X8 tyX8 tyX8_ok nmX8 hown hK hP hD hS 0 rfl rfl 25 (by decide) (hts (.fieldLink RX8 137 "ScrambledLineModel" "last" "I") (by decide +kernel)) (fun _ h9 => h9) rfl (by decide +kernel) rfl rfl (Nat.le_of_ble_eq_true rfl) dX8_hunt_12 (fun H locs hP hD hS => ?_)
  have hP : va_P D vwCl [(h0, .inr (8, [.int v_ownSource, .int v_ownTarget, .int v_given, .ref a_gift, .int v_frames, .ref a_queue, .int v_bitCount, .int v_bitAt, .ref a_bits, .int v_inFrame, .int v_idle, .int v_register, .int v_phase, .int v_size, .ref a_bytes, .int v_now, .ref a_hitTime, .ref a_hitLevel, .int v_got, .int v_ear, .int v_run, .int v_locked, .int (nI 0), .int v_quiet, .int v_ones, .int (nI 0), .int (nI 0), .int v_ending, .int v_started, .int v_faulty, .int v_nibbles, .ref a_nibble, .ref a_counts, .int v_ended, .int v_any, .int v_goodSource, .int v_goodLength, .ref a_good]))] H := hP
  have hD : va_D A [(h0, .inr (8, [.int v_ownSource, .int v_ownTarget, .int v_given, .ref a_gift, .int v_frames, .ref a_queue, .int v_bitCount, .int v_bitAt, .ref a_bits, .int v_inFrame, .int v_idle, .int v_register, .int v_phase, .int v_size, .ref a_bytes, .int v_now, .ref a_hitTime, .ref a_hitLevel, .int v_got, .int v_ear, .int v_run, .int v_locked, .int (nI 0), .int v_quiet, .int v_ones, .int (nI 0), .int (nI 0), .int v_ending, .int v_started, .int v_faulty, .int v_nibbles, .ref a_nibble, .ref a_counts, .int v_ended, .int v_any, .int v_goodSource, .int v_goodLength, .ref a_good]))] := hD
  refine W_q hQ ?_
  exact rt_v () hx hb hr hlocks dX8_hunt_15 hS hP hD trivial

theorem inX8_begin_X8 : ∀ w ∈ u_ws RX8 TX8 38, w ∈ wsX8_begin := by decide +kernel
set_option maxHeartbeats 4000000 in
set_option maxRecDepth 100000 in
theorem c_X8_begin (l : Launch) (D : va_G) (cI cG : ClassId) (tt : Nat × Nat × Nat) (sz : Nat) (h0 : Nat) (a_gift : Nat) (a_queue : Nat) (a_bits : Nat) (a_bytes : Nat) (a_hitTime : Nat) (a_hitLevel : Nat) (a_nibble : Nat) (a_counts : Nat) (a_good : Nat) (v_ownSource : Int32) (v_ownTarget : Int32) (v_given : Int32) (v_frames : Int32) (v_bitCount : Int32) (v_bitAt : Int32) (v_inFrame : Int32) (v_idle : Int32) (v_register : Int32) (v_phase : Int32) (v_size : Int32) (v_now : Int32) (v_got : Int32) (v_ear : Int32) (v_run : Int32) (v_locked : Int32) (v_reads : Int32) (v_quiet : Int32) (v_ones : Int32) (v_last : Int32) (v_heard : Int32) (v_ending : Int32) (v_started : Int32) (v_faulty : Int32) (v_nibbles : Int32) (v_ended : Int32) (v_any : Int32) (v_goodSource : Int32) (v_goodLength : Int32) : Met l yX8_begin wsX8_begin ({ frames := 0, cells := 0, slots := 0, locals := 0 }) (PC D cI cG tt [.ref h0] [(h0, .inr (8, [.int v_ownSource, .int v_ownTarget, .int v_given, .ref a_gift, .int v_frames, .ref a_queue, .int v_bitCount, .int v_bitAt, .ref a_bits, .int v_inFrame, .int v_idle, .int v_register, .int v_phase, .int v_size, .ref a_bytes, .int v_now, .ref a_hitTime, .ref a_hitLevel, .int v_got, .int v_ear, .int v_run, .int v_locked, .int v_reads, .int v_quiet, .int v_ones, .int v_last, .int v_heard, .int v_ending, .int v_started, .int v_faulty, .int v_nibbles, .ref a_nibble, .ref a_counts, .int v_ended, .int v_any, .int v_goodSource, .int v_goodLength, .ref a_good]))] sz) (QV (fun (u : Unit) => True) (fun (u : Unit) => [(h0, .inr (8, [.int v_ownSource, .int v_ownTarget, .int v_given, .ref a_gift, .int v_frames, .ref a_queue, .int v_bitCount, .int v_bitAt, .ref a_bits, .int v_inFrame, .int v_idle, .int v_register, .int v_phase, .int v_size, .ref a_bytes, .int v_now, .ref a_hitTime, .ref a_hitLevel, .int v_got, .int v_ear, .int v_run, .int v_locked, .int (nI 1), .int v_quiet, .int v_ones, .int v_last, .int (nI 0), .int (nI 0), .int (nI 0), .int (nI 0), .int (nI 0), .ref a_nibble, .ref a_counts, .int v_ended, .int v_any, .int v_goodSource, .int v_goodLength, .ref a_good]))]) D (va_A [(h0, .inr (8, [.int v_ownSource, .int v_ownTarget, .int v_given, .ref a_gift, .int v_frames, .ref a_queue, .int v_bitCount, .int v_bitAt, .ref a_bits, .int v_inFrame, .int v_idle, .int v_register, .int v_phase, .int v_size, .ref a_bytes, .int v_now, .ref a_hitTime, .ref a_hitLevel, .int v_got, .int v_ear, .int v_run, .int v_locked, .int v_reads, .int v_quiet, .int v_ones, .int v_last, .int v_heard, .int v_ending, .int v_started, .int v_faulty, .int v_nibbles, .ref a_nibble, .ref a_counts, .int v_ended, .int v_any, .int v_goodSource, .int v_goodLength, .ref a_good]))] sz)) 0 0 (va_A [(h0, .inr (8, [.int v_ownSource, .int v_ownTarget, .int v_given, .ref a_gift, .int v_frames, .ref a_queue, .int v_bitCount, .int v_bitAt, .ref a_bits, .int v_inFrame, .int v_idle, .int v_register, .int v_phase, .int v_size, .ref a_bytes, .int v_now, .ref a_hitTime, .ref a_hitLevel, .int v_got, .int v_ear, .int v_run, .int v_locked, .int v_reads, .int v_quiet, .int v_ones, .int v_last, .int v_heard, .int v_ending, .int v_started, .int v_faulty, .int v_nibbles, .ref a_nibble, .ref a_counts, .int v_ended, .int v_any, .int v_goodSource, .int v_goodLength, .ref a_good]))] sz) := by
  refine ct_of (y := yX8_begin) (cc := cX8_begin) (maxL := 1) (ret := none) (Qf := QV (fun (u : Unit) => True) (fun (u : Unit) => [(h0, .inr (8, [.int v_ownSource, .int v_ownTarget, .int v_given, .ref a_gift, .int v_frames, .ref a_queue, .int v_bitCount, .int v_bitAt, .ref a_bits, .int v_inFrame, .int v_idle, .int v_register, .int v_phase, .int v_size, .ref a_bytes, .int v_now, .ref a_hitTime, .ref a_hitLevel, .int v_got, .int v_ear, .int v_run, .int v_locked, .int (nI 1), .int v_quiet, .int v_ones, .int v_last, .int (nI 0), .int (nI 0), .int (nI 0), .int (nI 0), .int (nI 0), .ref a_nibble, .ref a_counts, .int v_ended, .int v_any, .int v_goodSource, .int v_goodLength, .ref a_good]))]) D) (by decide) rfl ?_
  intro p e s m args below meth c A Q R H locs hR hQ hx hb hml hr hts hown hlocks hin hP hD hE hT hA hS
  have hK := hE.1
  have hl := lv_entry ([.ref h0]) (n := 1) (Nat.le_of_ble_eq_true rfl)
  rw [lg_entry_eq]
  generalize (lg_sl ([.ref h0]) ++ List.replicate (1 - (lg_sl ([.ref h0])).length) Slot.unset).toArray = ls at hl ⊢
  have hl : lv_has ls 1 [(0, .ref h0)] := hl
  refine lv_aload_n hx hb dX8_begin_0 rfl (lv_at hl 0 rfl) ?_
  refine lv_iconst (v := nI 1) hx hb dX8_begin_1 rfl ?_
  refine va_put (D := D) (ci := 8) (v := .int (nI 1)) (ty := .boolean) (C := RX8) (T := TX8) (N := 38) hx hb hts inX8_begin_X8 tyX8 tyX8_ok nmX8 hown hK hP hD hS 0 rfl rfl 22 (by decide) (hts (.fieldLink RX8 131 "ScrambledLineModel" "reads" "Z") (by decide +kernel)) (fun _ h9 => h9) rfl (by decide +kernel) rfl rfl (Nat.le_of_ble_eq_true rfl) dX8_begin_2 (fun H locs hP hD hS => ?_)
  have hP : va_P D vwCl [(h0, .inr (8, [.int v_ownSource, .int v_ownTarget, .int v_given, .ref a_gift, .int v_frames, .ref a_queue, .int v_bitCount, .int v_bitAt, .ref a_bits, .int v_inFrame, .int v_idle, .int v_register, .int v_phase, .int v_size, .ref a_bytes, .int v_now, .ref a_hitTime, .ref a_hitLevel, .int v_got, .int v_ear, .int v_run, .int v_locked, .int (nI 1), .int v_quiet, .int v_ones, .int v_last, .int v_heard, .int v_ending, .int v_started, .int v_faulty, .int v_nibbles, .ref a_nibble, .ref a_counts, .int v_ended, .int v_any, .int v_goodSource, .int v_goodLength, .ref a_good]))] H := hP
  have hD : va_D A [(h0, .inr (8, [.int v_ownSource, .int v_ownTarget, .int v_given, .ref a_gift, .int v_frames, .ref a_queue, .int v_bitCount, .int v_bitAt, .ref a_bits, .int v_inFrame, .int v_idle, .int v_register, .int v_phase, .int v_size, .ref a_bytes, .int v_now, .ref a_hitTime, .ref a_hitLevel, .int v_got, .int v_ear, .int v_run, .int v_locked, .int (nI 1), .int v_quiet, .int v_ones, .int v_last, .int v_heard, .int v_ending, .int v_started, .int v_faulty, .int v_nibbles, .ref a_nibble, .ref a_counts, .int v_ended, .int v_any, .int v_goodSource, .int v_goodLength, .ref a_good]))] := hD
  refine lv_aload_n hx hb dX8_begin_5 rfl (lv_at hl 0 rfl) ?_
  refine lv_iconst (v := nI 0) hx hb dX8_begin_6 rfl ?_
  refine va_put (D := D) (ci := 8) (v := .int (nI 0)) (ty := .int) (C := RX8) (T := TX8) (N := 38) hx hb hts inX8_begin_X8 tyX8 tyX8_ok nmX8 hown hK hP hD hS 0 rfl rfl 26 (by decide) (hts (.fieldLink RX8 134 "ScrambledLineModel" "heard" "I") (by decide +kernel)) (fun _ h9 => h9) rfl (by decide +kernel) rfl rfl (Nat.le_of_ble_eq_true rfl) dX8_begin_7 (fun H locs hP hD hS => ?_)
  have hP : va_P D vwCl [(h0, .inr (8, [.int v_ownSource, .int v_ownTarget, .int v_given, .ref a_gift, .int v_frames, .ref a_queue, .int v_bitCount, .int v_bitAt, .ref a_bits, .int v_inFrame, .int v_idle, .int v_register, .int v_phase, .int v_size, .ref a_bytes, .int v_now, .ref a_hitTime, .ref a_hitLevel, .int v_got, .int v_ear, .int v_run, .int v_locked, .int (nI 1), .int v_quiet, .int v_ones, .int v_last, .int (nI 0), .int v_ending, .int v_started, .int v_faulty, .int v_nibbles, .ref a_nibble, .ref a_counts, .int v_ended, .int v_any, .int v_goodSource, .int v_goodLength, .ref a_good]))] H := hP
  have hD : va_D A [(h0, .inr (8, [.int v_ownSource, .int v_ownTarget, .int v_given, .ref a_gift, .int v_frames, .ref a_queue, .int v_bitCount, .int v_bitAt, .ref a_bits, .int v_inFrame, .int v_idle, .int v_register, .int v_phase, .int v_size, .ref a_bytes, .int v_now, .ref a_hitTime, .ref a_hitLevel, .int v_got, .int v_ear, .int v_run, .int v_locked, .int (nI 1), .int v_quiet, .int v_ones, .int v_last, .int (nI 0), .int v_ending, .int v_started, .int v_faulty, .int v_nibbles, .ref a_nibble, .ref a_counts, .int v_ended, .int v_any, .int v_goodSource, .int v_goodLength, .ref a_good]))] := hD
  refine lv_aload_n hx hb dX8_begin_10 rfl (lv_at hl 0 rfl) ?_
  refine lv_iconst (v := nI 0) hx hb dX8_begin_11 rfl ?_
  refine va_put (D := D) (ci := 8) (v := .int (nI 0)) (ty := .boolean) (C := RX8) (T := TX8) (N := 38) hx hb hts inX8_begin_X8 tyX8 tyX8_ok nmX8 hown hK hP hD hS 0 rfl rfl 27 (by decide) (hts (.fieldLink RX8 152 "ScrambledLineModel" "ending" "Z") (by decide +kernel)) (fun _ h9 => h9) rfl (by decide +kernel) rfl rfl (Nat.le_of_ble_eq_true rfl) dX8_begin_12 (fun H locs hP hD hS => ?_)
  have hP : va_P D vwCl [(h0, .inr (8, [.int v_ownSource, .int v_ownTarget, .int v_given, .ref a_gift, .int v_frames, .ref a_queue, .int v_bitCount, .int v_bitAt, .ref a_bits, .int v_inFrame, .int v_idle, .int v_register, .int v_phase, .int v_size, .ref a_bytes, .int v_now, .ref a_hitTime, .ref a_hitLevel, .int v_got, .int v_ear, .int v_run, .int v_locked, .int (nI 1), .int v_quiet, .int v_ones, .int v_last, .int (nI 0), .int (nI 0), .int v_started, .int v_faulty, .int v_nibbles, .ref a_nibble, .ref a_counts, .int v_ended, .int v_any, .int v_goodSource, .int v_goodLength, .ref a_good]))] H := hP
  have hD : va_D A [(h0, .inr (8, [.int v_ownSource, .int v_ownTarget, .int v_given, .ref a_gift, .int v_frames, .ref a_queue, .int v_bitCount, .int v_bitAt, .ref a_bits, .int v_inFrame, .int v_idle, .int v_register, .int v_phase, .int v_size, .ref a_bytes, .int v_now, .ref a_hitTime, .ref a_hitLevel, .int v_got, .int v_ear, .int v_run, .int v_locked, .int (nI 1), .int v_quiet, .int v_ones, .int v_last, .int (nI 0), .int (nI 0), .int v_started, .int v_faulty, .int v_nibbles, .ref a_nibble, .ref a_counts, .int v_ended, .int v_any, .int v_goodSource, .int v_goodLength, .ref a_good]))] := hD
  refine lv_aload_n hx hb dX8_begin_15 rfl (lv_at hl 0 rfl) ?_
  refine lv_iconst (v := nI 0) hx hb dX8_begin_16 rfl ?_
  refine va_put (D := D) (ci := 8) (v := .int (nI 0)) (ty := .boolean) (C := RX8) (T := TX8) (N := 38) hx hb hts inX8_begin_X8 tyX8 tyX8_ok nmX8 hown hK hP hD hS 0 rfl rfl 28 (by decide) (hts (.fieldLink RX8 155 "ScrambledLineModel" "started" "Z") (by decide +kernel)) (fun _ h9 => h9) rfl (by decide +kernel) rfl rfl (Nat.le_of_ble_eq_true rfl) dX8_begin_17 (fun H locs hP hD hS => ?_)
  have hP : va_P D vwCl [(h0, .inr (8, [.int v_ownSource, .int v_ownTarget, .int v_given, .ref a_gift, .int v_frames, .ref a_queue, .int v_bitCount, .int v_bitAt, .ref a_bits, .int v_inFrame, .int v_idle, .int v_register, .int v_phase, .int v_size, .ref a_bytes, .int v_now, .ref a_hitTime, .ref a_hitLevel, .int v_got, .int v_ear, .int v_run, .int v_locked, .int (nI 1), .int v_quiet, .int v_ones, .int v_last, .int (nI 0), .int (nI 0), .int (nI 0), .int v_faulty, .int v_nibbles, .ref a_nibble, .ref a_counts, .int v_ended, .int v_any, .int v_goodSource, .int v_goodLength, .ref a_good]))] H := hP
  have hD : va_D A [(h0, .inr (8, [.int v_ownSource, .int v_ownTarget, .int v_given, .ref a_gift, .int v_frames, .ref a_queue, .int v_bitCount, .int v_bitAt, .ref a_bits, .int v_inFrame, .int v_idle, .int v_register, .int v_phase, .int v_size, .ref a_bytes, .int v_now, .ref a_hitTime, .ref a_hitLevel, .int v_got, .int v_ear, .int v_run, .int v_locked, .int (nI 1), .int v_quiet, .int v_ones, .int v_last, .int (nI 0), .int (nI 0), .int (nI 0), .int v_faulty, .int v_nibbles, .ref a_nibble, .ref a_counts, .int v_ended, .int v_any, .int v_goodSource, .int v_goodLength, .ref a_good]))] := hD
  refine lv_aload_n hx hb dX8_begin_20 rfl (lv_at hl 0 rfl) ?_
  refine lv_iconst (v := nI 0) hx hb dX8_begin_21 rfl ?_
  refine va_put (D := D) (ci := 8) (v := .int (nI 0)) (ty := .boolean) (C := RX8) (T := TX8) (N := 38) hx hb hts inX8_begin_X8 tyX8 tyX8_ok nmX8 hown hK hP hD hS 0 rfl rfl 29 (by decide) (hts (.fieldLink RX8 158 "ScrambledLineModel" "faulty" "Z") (by decide +kernel)) (fun _ h9 => h9) rfl (by decide +kernel) rfl rfl (Nat.le_of_ble_eq_true rfl) dX8_begin_22 (fun H locs hP hD hS => ?_)
  have hP : va_P D vwCl [(h0, .inr (8, [.int v_ownSource, .int v_ownTarget, .int v_given, .ref a_gift, .int v_frames, .ref a_queue, .int v_bitCount, .int v_bitAt, .ref a_bits, .int v_inFrame, .int v_idle, .int v_register, .int v_phase, .int v_size, .ref a_bytes, .int v_now, .ref a_hitTime, .ref a_hitLevel, .int v_got, .int v_ear, .int v_run, .int v_locked, .int (nI 1), .int v_quiet, .int v_ones, .int v_last, .int (nI 0), .int (nI 0), .int (nI 0), .int (nI 0), .int v_nibbles, .ref a_nibble, .ref a_counts, .int v_ended, .int v_any, .int v_goodSource, .int v_goodLength, .ref a_good]))] H := hP
  have hD : va_D A [(h0, .inr (8, [.int v_ownSource, .int v_ownTarget, .int v_given, .ref a_gift, .int v_frames, .ref a_queue, .int v_bitCount, .int v_bitAt, .ref a_bits, .int v_inFrame, .int v_idle, .int v_register, .int v_phase, .int v_size, .ref a_bytes, .int v_now, .ref a_hitTime, .ref a_hitLevel, .int v_got, .int v_ear, .int v_run, .int v_locked, .int (nI 1), .int v_quiet, .int v_ones, .int v_last, .int (nI 0), .int (nI 0), .int (nI 0), .int (nI 0), .int v_nibbles, .ref a_nibble, .ref a_counts, .int v_ended, .int v_any, .int v_goodSource, .int v_goodLength, .ref a_good]))] := hD
  refine lv_aload_n hx hb dX8_begin_25 rfl (lv_at hl 0 rfl) ?_
  refine lv_iconst (v := nI 0) hx hb dX8_begin_26 rfl ?_
  refine va_put (D := D) (ci := 8) (v := .int (nI 0)) (ty := .int) (C := RX8) (T := TX8) (N := 38) hx hb hts inX8_begin_X8 tyX8 tyX8_ok nmX8 hown hK hP hD hS 0 rfl rfl 30 (by decide) (hts (.fieldLink RX8 161 "ScrambledLineModel" "nibbles" "I") (by decide +kernel)) (fun _ h9 => h9) rfl (by decide +kernel) rfl rfl (Nat.le_of_ble_eq_true rfl) dX8_begin_27 (fun H locs hP hD hS => ?_)
  have hP : va_P D vwCl [(h0, .inr (8, [.int v_ownSource, .int v_ownTarget, .int v_given, .ref a_gift, .int v_frames, .ref a_queue, .int v_bitCount, .int v_bitAt, .ref a_bits, .int v_inFrame, .int v_idle, .int v_register, .int v_phase, .int v_size, .ref a_bytes, .int v_now, .ref a_hitTime, .ref a_hitLevel, .int v_got, .int v_ear, .int v_run, .int v_locked, .int (nI 1), .int v_quiet, .int v_ones, .int v_last, .int (nI 0), .int (nI 0), .int (nI 0), .int (nI 0), .int (nI 0), .ref a_nibble, .ref a_counts, .int v_ended, .int v_any, .int v_goodSource, .int v_goodLength, .ref a_good]))] H := hP
  have hD : va_D A [(h0, .inr (8, [.int v_ownSource, .int v_ownTarget, .int v_given, .ref a_gift, .int v_frames, .ref a_queue, .int v_bitCount, .int v_bitAt, .ref a_bits, .int v_inFrame, .int v_idle, .int v_register, .int v_phase, .int v_size, .ref a_bytes, .int v_now, .ref a_hitTime, .ref a_hitLevel, .int v_got, .int v_ear, .int v_run, .int v_locked, .int (nI 1), .int v_quiet, .int v_ones, .int v_last, .int (nI 0), .int (nI 0), .int (nI 0), .int (nI 0), .int (nI 0), .ref a_nibble, .ref a_counts, .int v_ended, .int v_any, .int v_goodSource, .int v_goodLength, .ref a_good]))] := hD
  refine W_q hQ ?_
  exact rt_v () hx hb hr hlocks dX8_begin_30 hS hP hD trivial

theorem inX8_end_X8 : ∀ w ∈ u_ws RX8 TX8 38, w ∈ wsX8_end := by decide +kernel
set_option maxHeartbeats 4000000 in
set_option maxRecDepth 100000 in
theorem c_X8_end (l : Launch) (D : va_G) (cI cG : ClassId) (tt : Nat × Nat × Nat) (sz : Nat) (h0 : Nat) (a_gift : Nat) (a_queue : Nat) (a_bits : Nat) (a_bytes : Nat) (a_hitTime : Nat) (a_hitLevel : Nat) (a_nibble : Nat) (a_counts : Nat) (a_good : Nat) (v_ownSource : Int32) (v_ownTarget : Int32) (v_given : Int32) (v_frames : Int32) (v_bitCount : Int32) (v_bitAt : Int32) (v_inFrame : Int32) (v_idle : Int32) (v_register : Int32) (v_phase : Int32) (v_size : Int32) (v_now : Int32) (v_got : Int32) (v_ear : Int32) (v_run : Int32) (v_locked : Int32) (v_reads : Int32) (v_quiet : Int32) (v_ones : Int32) (v_last : Int32) (v_heard : Int32) (v_ending : Int32) (v_started : Int32) (v_faulty : Int32) (v_nibbles : Int32) (en : Nat) (v_any : Int32) (v_goodSource : Int32) (v_goodLength : Int32) (cf : Nat → Int32) (k : Nat) (hk : k ≤ 10) (hen : en < 2 ^ 30) : Met l yX8_end wsX8_end ({ frames := 1, cells := 0, slots := 0, locals := 20 }) (PC D cI cG tt [.ref h0, .int (nI k)] [(h0, .inr (8, [.int v_ownSource, .int v_ownTarget, .int v_given, .ref a_gift, .int v_frames, .ref a_queue, .int v_bitCount, .int v_bitAt, .ref a_bits, .int v_inFrame, .int v_idle, .int v_register, .int v_phase, .int v_size, .ref a_bytes, .int v_now, .ref a_hitTime, .ref a_hitLevel, .int v_got, .int v_ear, .int v_run, .int v_locked, .int v_reads, .int v_quiet, .int v_ones, .int v_last, .int v_heard, .int v_ending, .int v_started, .int v_faulty, .int v_nibbles, .ref a_nibble, .ref a_counts, .int (nI en), .int v_any, .int v_goodSource, .int v_goodLength, .ref a_good])), (a_counts, .inl (cI, 11, .inl cf))] sz) (QV (fun (u : Unit) => True) (fun (u : Unit) => [(h0, .inr (8, [.int v_ownSource, .int v_ownTarget, .int v_given, .ref a_gift, .int v_frames, .ref a_queue, .int v_bitCount, .int v_bitAt, .ref a_bits, .int v_inFrame, .int v_idle, .int v_register, .int v_phase, .int v_size, .ref a_bytes, .int v_now, .ref a_hitTime, .ref a_hitLevel, .int v_got, .int v_ear, .int v_run, .int v_locked, .int (nI 0), .int v_quiet, .int v_ones, .int (nI 0), .int (nI 0), .int v_ending, .int v_started, .int v_faulty, .int v_nibbles, .ref a_nibble, .ref a_counts, .int (nI (en + 1)), .int v_any, .int v_goodSource, .int v_goodLength, .ref a_good])), (a_counts, .inl (cI, 11, .inl (upd cf k (cf k + nI 1))))]) D (va_A [(h0, .inr (8, [.int v_ownSource, .int v_ownTarget, .int v_given, .ref a_gift, .int v_frames, .ref a_queue, .int v_bitCount, .int v_bitAt, .ref a_bits, .int v_inFrame, .int v_idle, .int v_register, .int v_phase, .int v_size, .ref a_bytes, .int v_now, .ref a_hitTime, .ref a_hitLevel, .int v_got, .int v_ear, .int v_run, .int v_locked, .int v_reads, .int v_quiet, .int v_ones, .int v_last, .int v_heard, .int v_ending, .int v_started, .int v_faulty, .int v_nibbles, .ref a_nibble, .ref a_counts, .int (nI en), .int v_any, .int v_goodSource, .int v_goodLength, .ref a_good])), (a_counts, .inl (cI, 11, .inl cf))] sz)) 0 0 (va_A [(h0, .inr (8, [.int v_ownSource, .int v_ownTarget, .int v_given, .ref a_gift, .int v_frames, .ref a_queue, .int v_bitCount, .int v_bitAt, .ref a_bits, .int v_inFrame, .int v_idle, .int v_register, .int v_phase, .int v_size, .ref a_bytes, .int v_now, .ref a_hitTime, .ref a_hitLevel, .int v_got, .int v_ear, .int v_run, .int v_locked, .int v_reads, .int v_quiet, .int v_ones, .int v_last, .int v_heard, .int v_ending, .int v_started, .int v_faulty, .int v_nibbles, .ref a_nibble, .ref a_counts, .int (nI en), .int v_any, .int v_goodSource, .int v_goodLength, .ref a_good])), (a_counts, .inl (cI, 11, .inl cf))] sz) := by
  refine ct_of (y := yX8_end) (cc := cX8_end) (maxL := 2) (ret := none) (Qf := QV (fun (u : Unit) => True) (fun (u : Unit) => [(h0, .inr (8, [.int v_ownSource, .int v_ownTarget, .int v_given, .ref a_gift, .int v_frames, .ref a_queue, .int v_bitCount, .int v_bitAt, .ref a_bits, .int v_inFrame, .int v_idle, .int v_register, .int v_phase, .int v_size, .ref a_bytes, .int v_now, .ref a_hitTime, .ref a_hitLevel, .int v_got, .int v_ear, .int v_run, .int v_locked, .int (nI 0), .int v_quiet, .int v_ones, .int (nI 0), .int (nI 0), .int v_ending, .int v_started, .int v_faulty, .int v_nibbles, .ref a_nibble, .ref a_counts, .int (nI (en + 1)), .int v_any, .int v_goodSource, .int v_goodLength, .ref a_good])), (a_counts, .inl (cI, 11, .inl (upd cf k (cf k + nI 1))))]) D) (by decide) rfl ?_
  intro p e s m args below meth c A Q R H locs hR hQ hx hb hml hr hts hown hlocks hin hP hD hE hT hA hS
  have hK := hE.1
  have hl := lv_entry ([.ref h0, .int (nI k)]) (n := 2) (Nat.le_of_ble_eq_true rfl)
  rw [lg_entry_eq]
  generalize (lg_sl ([.ref h0, .int (nI k)]) ++ List.replicate (2 - (lg_sl ([.ref h0, .int (nI k)])).length) Slot.unset).toArray = ls at hl ⊢
  have hl : lv_has ls 2 [(0, .ref h0), (1, .int (nI k))] := hl
  refine lv_aload_n hx hb dX8_end_0 rfl (lv_at hl 0 rfl) ?_
  refine va_get (D := D) (ci := 8) (v := .ref a_counts) (C := RX8) (T := TX8) (N := 38) hx hb hts inX8_end_X8 hown hK hP 0 rfl rfl 32 (by decide) (hts (.fieldLink RX8 31 "ScrambledLineModel" "counts" "[I") (by decide +kernel)) (fun _ h9 => h9) rfl dX8_end_1 ?_
  refine lv_iload_n hx hb dX8_end_4 rfl (lv_at hl 1 rfl) ?_
  refine lv_dup2_11 hx hb dX8_end_5 rfl rfl ?_
  refine gl_i hx hb hK hP 1 rfl (i := k) (by omega) (by first | decide | omega) dX8_end_6 ?_
  refine lv_iconst (v := nI 1) hx hb dX8_end_7 rfl ?_
  refine lv_iadd hx hb dX8_end_8 ?_
  refine gs_i hx hb hK hP hD hS 1 rfl (i := k) (x := (cf k) + (nI 1)) (by omega) (by first | decide | omega) dX8_end_9 (fun H locs hP hD hS => ?_)
  have hP : va_P D vwCl [(h0, .inr (8, [.int v_ownSource, .int v_ownTarget, .int v_given, .ref a_gift, .int v_frames, .ref a_queue, .int v_bitCount, .int v_bitAt, .ref a_bits, .int v_inFrame, .int v_idle, .int v_register, .int v_phase, .int v_size, .ref a_bytes, .int v_now, .ref a_hitTime, .ref a_hitLevel, .int v_got, .int v_ear, .int v_run, .int v_locked, .int v_reads, .int v_quiet, .int v_ones, .int v_last, .int v_heard, .int v_ending, .int v_started, .int v_faulty, .int v_nibbles, .ref a_nibble, .ref a_counts, .int (nI en), .int v_any, .int v_goodSource, .int v_goodLength, .ref a_good])), (a_counts, .inl (cI, 11, .inl (upd cf k ((cf k) + (nI 1)))))] H := hP
  have hD : va_D A [(h0, .inr (8, [.int v_ownSource, .int v_ownTarget, .int v_given, .ref a_gift, .int v_frames, .ref a_queue, .int v_bitCount, .int v_bitAt, .ref a_bits, .int v_inFrame, .int v_idle, .int v_register, .int v_phase, .int v_size, .ref a_bytes, .int v_now, .ref a_hitTime, .ref a_hitLevel, .int v_got, .int v_ear, .int v_run, .int v_locked, .int v_reads, .int v_quiet, .int v_ones, .int v_last, .int v_heard, .int v_ending, .int v_started, .int v_faulty, .int v_nibbles, .ref a_nibble, .ref a_counts, .int (nI en), .int v_any, .int v_goodSource, .int v_goodLength, .ref a_good])), (a_counts, .inl (cI, 11, .inl (upd cf k ((cf k) + (nI 1)))))] := hD
  refine lv_aload_n hx hb dX8_end_10 rfl (lv_at hl 0 rfl) ?_
  refine lv_dup hx hb dX8_end_11 rfl ?_
  refine va_get (D := D) (ci := 8) (v := .int (nI en)) (C := RX8) (T := TX8) (N := 38) hx hb hts inX8_end_X8 hown hK hP 0 rfl rfl 33 (by decide) (hts (.fieldLink RX8 140 "ScrambledLineModel" "ended" "I") (by decide +kernel)) (fun _ h9 => h9) rfl dX8_end_12 ?_
  refine lv_iconst (v := nI 1) hx hb dX8_end_15 rfl ?_
  refine lv_iadd hx hb dX8_end_16 ?_
  refine lv_to (y := nI (en + 1)) (nI_add en 1) ?_
  refine va_put (D := D) (ci := 8) (v := .int (nI (en + 1))) (ty := .int) (C := RX8) (T := TX8) (N := 38) hx hb hts inX8_end_X8 tyX8 tyX8_ok nmX8 hown hK hP hD hS 0 rfl rfl 33 (by decide) (hts (.fieldLink RX8 140 "ScrambledLineModel" "ended" "I") (by decide +kernel)) (fun _ h9 => h9) rfl (by decide +kernel) rfl rfl (Nat.le_of_ble_eq_true rfl) dX8_end_17 (fun H locs hP hD hS => ?_)
  have hP : va_P D vwCl [(h0, .inr (8, [.int v_ownSource, .int v_ownTarget, .int v_given, .ref a_gift, .int v_frames, .ref a_queue, .int v_bitCount, .int v_bitAt, .ref a_bits, .int v_inFrame, .int v_idle, .int v_register, .int v_phase, .int v_size, .ref a_bytes, .int v_now, .ref a_hitTime, .ref a_hitLevel, .int v_got, .int v_ear, .int v_run, .int v_locked, .int v_reads, .int v_quiet, .int v_ones, .int v_last, .int v_heard, .int v_ending, .int v_started, .int v_faulty, .int v_nibbles, .ref a_nibble, .ref a_counts, .int (nI (en + 1)), .int v_any, .int v_goodSource, .int v_goodLength, .ref a_good])), (a_counts, .inl (cI, 11, .inl (upd cf k ((cf k) + (nI 1)))))] H := hP
  have hD : va_D A [(h0, .inr (8, [.int v_ownSource, .int v_ownTarget, .int v_given, .ref a_gift, .int v_frames, .ref a_queue, .int v_bitCount, .int v_bitAt, .ref a_bits, .int v_inFrame, .int v_idle, .int v_register, .int v_phase, .int v_size, .ref a_bytes, .int v_now, .ref a_hitTime, .ref a_hitLevel, .int v_got, .int v_ear, .int v_run, .int v_locked, .int v_reads, .int v_quiet, .int v_ones, .int v_last, .int v_heard, .int v_ending, .int v_started, .int v_faulty, .int v_nibbles, .ref a_nibble, .ref a_counts, .int (nI (en + 1)), .int v_any, .int v_goodSource, .int v_goodLength, .ref a_good])), (a_counts, .inl (cI, 11, .inl (upd cf k ((cf k) + (nI 1)))))] := hD
  refine lv_aload_n hx hb dX8_end_20 rfl (lv_at hl 0 rfl) ?_
  refine ca_v (wr := [(a_counts, .inl (cI, 11, .inl (upd cf k ((cf k) + (nI 1)))))]) (ru_V (As := []) (rest := []) ⟨hx, hb, hml, hown, hts⟩ (c_X8_hunt l D cI cG tt H.size h0 a_gift a_queue a_bits a_bytes a_hitTime a_hitLevel a_nibble a_counts a_good v_ownSource v_ownTarget v_given v_frames v_bitCount v_bitAt v_inFrame v_idle v_register v_phase v_size v_now v_got v_ear v_run v_locked v_reads v_quiet v_ones v_last v_heard v_ending v_started v_faulty v_nibbles (nI (en + 1)) v_any v_goodSource v_goodLength) (cwV 0 hts gX8_end_X8_hunt rfl rfl rfl (by decide +kernel) ⟨by rw [hR]; exact Nat.le_of_ble_eq_true rfl, by rw [hR]; exact Nat.le_of_ble_eq_true rfl⟩) hP hD hE hT hS hA [0] rfl (by decide) (va_recv hK hP (ci := 8) (q0 := 0) rfl rfl) rfl hl.1 rfl (Nat.le_of_ble_eq_true rfl) dX8_end_21 ⟨by rw [hR]; exact Nat.le_of_ble_eq_true rfl, by rw [hR]; exact Nat.le_of_ble_eq_true rfl⟩) hP hD hS hA [0] [1] rfl rfl (by decide) (by decide) (fun u H locs hw hP hD hS => ?_)
  have hP : va_P D vwCl [(a_counts, .inl (cI, 11, .inl (upd cf k ((cf k) + (nI 1))))), (h0, .inr (8, [.int v_ownSource, .int v_ownTarget, .int v_given, .ref a_gift, .int v_frames, .ref a_queue, .int v_bitCount, .int v_bitAt, .ref a_bits, .int v_inFrame, .int v_idle, .int v_register, .int v_phase, .int v_size, .ref a_bytes, .int v_now, .ref a_hitTime, .ref a_hitLevel, .int v_got, .int v_ear, .int v_run, .int v_locked, .int (nI 0), .int v_quiet, .int v_ones, .int (nI 0), .int (nI 0), .int v_ending, .int v_started, .int v_faulty, .int v_nibbles, .ref a_nibble, .ref a_counts, .int (nI (en + 1)), .int v_any, .int v_goodSource, .int v_goodLength, .ref a_good]))] H := hP
  have hD : va_D A [(a_counts, .inl (cI, 11, .inl (upd cf k ((cf k) + (nI 1))))), (h0, .inr (8, [.int v_ownSource, .int v_ownTarget, .int v_given, .ref a_gift, .int v_frames, .ref a_queue, .int v_bitCount, .int v_bitAt, .ref a_bits, .int v_inFrame, .int v_idle, .int v_register, .int v_phase, .int v_size, .ref a_bytes, .int v_now, .ref a_hitTime, .ref a_hitLevel, .int v_got, .int v_ear, .int v_run, .int v_locked, .int (nI 0), .int v_quiet, .int v_ones, .int (nI 0), .int (nI 0), .int v_ending, .int v_started, .int v_faulty, .int v_nibbles, .ref a_nibble, .ref a_counts, .int (nI (en + 1)), .int v_any, .int v_goodSource, .int v_goodLength, .ref a_good]))] := hD
  refine W_q hQ ?_
  exact rt_v () hx hb hr hlocks dX8_end_24 hS (hP.sub [1, 0] rfl) (hD.sub [1, 0] (by decide) rfl) trivial

set_option maxHeartbeats 4000000 in
set_option maxRecDepth 100000 in
theorem c_X8_data_bad (l : Launch) (D : va_G) (cI cG : ClassId) (tt : Nat × Nat × Nat) (sz : Nat) (h0 : Nat) (a_gift : Nat) (a_queue : Nat) (a_bits : Nat) (a_bytes : Nat) (a_hitTime : Nat) (a_hitLevel : Nat) (a_nibble : Nat) (a_counts : Nat) (a_good : Nat) (v_ownSource : Int32) (v_ownTarget : Int32) (v_given : Int32) (v_frames : Int32) (v_bitCount : Int32) (v_bitAt : Int32) (v_inFrame : Int32) (v_idle : Int32) (v_register : Int32) (v_phase : Int32) (v_size : Int32) (v_now : Int32) (v_got : Int32) (v_ear : Int32) (v_run : Int32) (v_locked : Int32) (v_reads : Int32) (v_quiet : Int32) (v_ones : Int32) (v_last : Int32) (v_heard : Int32) (v_ending : Int32) (v_started : Int32) (v_faulty : Int32) (v_nibbles : Int32) (v_ended : Int32) (v_any : Int32) (v_goodSource : Int32) (v_goodLength : Int32) (x : Int32) (hb0 : isB x = false) : Met l yX8_data wsX8_data ({ frames := 1, cells := 0, slots := 0, locals := 20 }) (PC D cI cG tt [.ref h0, .int x] [(h0, .inr (8, [.int v_ownSource, .int v_ownTarget, .int v_given, .ref a_gift, .int v_frames, .ref a_queue, .int v_bitCount, .int v_bitAt, .ref a_bits, .int v_inFrame, .int v_idle, .int v_register, .int v_phase, .int v_size, .ref a_bytes, .int v_now, .ref a_hitTime, .ref a_hitLevel, .int v_got, .int v_ear, .int v_run, .int v_locked, .int v_reads, .int v_quiet, .int v_ones, .int v_last, .int v_heard, .int v_ending, .int v_started, .int v_faulty, .int v_nibbles, .ref a_nibble, .ref a_counts, .int v_ended, .int v_any, .int v_goodSource, .int v_goodLength, .ref a_good]))] sz) (QI (fun (r : Int32) (u : Unit) => r = (-1)) (fun (u : Unit) => [(h0, .inr (8, [.int v_ownSource, .int v_ownTarget, .int v_given, .ref a_gift, .int v_frames, .ref a_queue, .int v_bitCount, .int v_bitAt, .ref a_bits, .int v_inFrame, .int v_idle, .int v_register, .int v_phase, .int v_size, .ref a_bytes, .int v_now, .ref a_hitTime, .ref a_hitLevel, .int v_got, .int v_ear, .int v_run, .int v_locked, .int v_reads, .int v_quiet, .int v_ones, .int v_last, .int v_heard, .int v_ending, .int v_started, .int v_faulty, .int v_nibbles, .ref a_nibble, .ref a_counts, .int v_ended, .int v_any, .int v_goodSource, .int v_goodLength, .ref a_good]))]) D (va_A [(h0, .inr (8, [.int v_ownSource, .int v_ownTarget, .int v_given, .ref a_gift, .int v_frames, .ref a_queue, .int v_bitCount, .int v_bitAt, .ref a_bits, .int v_inFrame, .int v_idle, .int v_register, .int v_phase, .int v_size, .ref a_bytes, .int v_now, .ref a_hitTime, .ref a_hitLevel, .int v_got, .int v_ear, .int v_run, .int v_locked, .int v_reads, .int v_quiet, .int v_ones, .int v_last, .int v_heard, .int v_ending, .int v_started, .int v_faulty, .int v_nibbles, .ref a_nibble, .ref a_counts, .int v_ended, .int v_any, .int v_goodSource, .int v_goodLength, .ref a_good]))] sz)) 0 0 (va_A [(h0, .inr (8, [.int v_ownSource, .int v_ownTarget, .int v_given, .ref a_gift, .int v_frames, .ref a_queue, .int v_bitCount, .int v_bitAt, .ref a_bits, .int v_inFrame, .int v_idle, .int v_register, .int v_phase, .int v_size, .ref a_bytes, .int v_now, .ref a_hitTime, .ref a_hitLevel, .int v_got, .int v_ear, .int v_run, .int v_locked, .int v_reads, .int v_quiet, .int v_ones, .int v_last, .int v_heard, .int v_ending, .int v_started, .int v_faulty, .int v_nibbles, .ref a_nibble, .ref a_counts, .int v_ended, .int v_any, .int v_goodSource, .int v_goodLength, .ref a_good]))] sz) := by
  refine ct_of (y := yX8_data) (cc := cX8_data) (maxL := 2) (ret := (some .int)) (Qf := QI (fun (r : Int32) (u : Unit) => r = (-1)) (fun (u : Unit) => [(h0, .inr (8, [.int v_ownSource, .int v_ownTarget, .int v_given, .ref a_gift, .int v_frames, .ref a_queue, .int v_bitCount, .int v_bitAt, .ref a_bits, .int v_inFrame, .int v_idle, .int v_register, .int v_phase, .int v_size, .ref a_bytes, .int v_now, .ref a_hitTime, .ref a_hitLevel, .int v_got, .int v_ear, .int v_run, .int v_locked, .int v_reads, .int v_quiet, .int v_ones, .int v_last, .int v_heard, .int v_ending, .int v_started, .int v_faulty, .int v_nibbles, .ref a_nibble, .ref a_counts, .int v_ended, .int v_any, .int v_goodSource, .int v_goodLength, .ref a_good]))]) D) (by decide) rfl ?_
  intro p e s m args below meth c A Q R H locs hR hQ hx hb hml hr hts hown hlocks hin hP hD hE hT hA hS
  have hK := hE.1
  have hl := lv_entry ([.ref h0, .int x]) (n := 2) (Nat.le_of_ble_eq_true rfl)
  rw [lg_entry_eq]
  generalize (lg_sl ([.ref h0, .int x]) ++ List.replicate (2 - (lg_sl ([.ref h0, .int x])).length) Slot.unset).toArray = ls at hl ⊢
  have hl : lv_has ls 2 [(0, .ref h0), (1, .int x)] := hl
  refine lv_iload_n hx hb dX8_data_0 rfl (lv_at hl 1 rfl) ?_
  refine ca_i (wr := [(h0, .inr (8, [.int v_ownSource, .int v_ownTarget, .int v_given, .ref a_gift, .int v_frames, .ref a_queue, .int v_bitCount, .int v_bitAt, .ref a_bits, .int v_inFrame, .int v_idle, .int v_register, .int v_phase, .int v_size, .ref a_bytes, .int v_now, .ref a_hitTime, .ref a_hitLevel, .int v_got, .int v_ear, .int v_run, .int v_locked, .int v_reads, .int v_quiet, .int v_ones, .int v_last, .int v_heard, .int v_ending, .int v_started, .int v_faulty, .int v_nibbles, .ref a_nibble, .ref a_counts, .int v_ended, .int v_any, .int v_goodSource, .int v_goodLength, .ref a_good]))]) (ru_S (As := [.int x]) (rest := []) ⟨hx, hb, hml, hown, hts⟩ (c_X8_isByte l D cI cG tt H.size x) (cwS 1 hts gX8_data_X8_isByte rfl rfl rfl (by decide +kernel) ⟨by rw [hR]; exact Nat.le_of_ble_eq_true rfl, by rw [hR]; exact Nat.le_of_ble_eq_true rfl⟩) hP hD hE hT hS hA [] rfl (by decide) rfl hl.1 rfl (Nat.le_of_ble_eq_true rfl) dX8_data_1 ⟨by rw [hR]; exact Nat.le_of_ble_eq_true rfl, by rw [hR]; exact Nat.le_of_ble_eq_true rfl⟩) hP hD hS hA [] [0] rfl rfl (by decide) (by decide) (fun r1 u H locs hw hP hD hS => ?_)
  obtain rfl := hw
  have hP : va_P D vwCl [(h0, .inr (8, [.int v_ownSource, .int v_ownTarget, .int v_given, .ref a_gift, .int v_frames, .ref a_queue, .int v_bitCount, .int v_bitAt, .ref a_bits, .int v_inFrame, .int v_idle, .int v_register, .int v_phase, .int v_size, .ref a_bytes, .int v_now, .ref a_hitTime, .ref a_hitLevel, .int v_got, .int v_ear, .int v_run, .int v_locked, .int v_reads, .int v_quiet, .int v_ones, .int v_last, .int v_heard, .int v_ending, .int v_started, .int v_faulty, .int v_nibbles, .ref a_nibble, .ref a_counts, .int v_ended, .int v_any, .int v_goodSource, .int v_goodLength, .ref a_good]))] H := hP
  have hD : va_D A [(h0, .inr (8, [.int v_ownSource, .int v_ownTarget, .int v_given, .ref a_gift, .int v_frames, .ref a_queue, .int v_bitCount, .int v_bitAt, .ref a_bits, .int v_inFrame, .int v_idle, .int v_register, .int v_phase, .int v_size, .ref a_bytes, .int v_now, .ref a_hitTime, .ref a_hitLevel, .int v_got, .int v_ear, .int v_run, .int v_locked, .int v_reads, .int v_quiet, .int v_ones, .int v_last, .int v_heard, .int v_ending, .int v_started, .int v_faulty, .int v_nibbles, .ref a_nibble, .ref a_counts, .int v_ended, .int v_any, .int v_goodSource, .int v_goodLength, .ref a_good]))] := hD
  refine lv_to (y := bI false) (by rw [hb0]) ?_
  refine lv_if_ne (tgt := 9) hx hb dX8_data_4 (by decide) (fun c4 => ?_) (fun c4 => ?_)
  · skip
    have k4 : false = true := bI_t c4
    exact absurd k4 (by decide)
  · skip
    have k4 : false = false := bI_f c4
    refine lv_iconst (v := (-1)) hx hb dX8_data_7 rfl ?_
    refine W_q hQ ?_
    exact rt_i () hx hb hr hlocks dX8_data_8 hS hP hD rfl

theorem inX8_data_X8 : ∀ w ∈ u_ws RX8 TX8 38, w ∈ wsX8_data := by decide +kernel
set_option maxHeartbeats 4000000 in
set_option maxRecDepth 100000 in
theorem c_X8_data_full (l : Launch) (D : va_G) (cI cG : ClassId) (tt : Nat × Nat × Nat) (sz : Nat) (h0 : Nat) (a_gift : Nat) (a_queue : Nat) (a_bits : Nat) (a_bytes : Nat) (a_hitTime : Nat) (a_hitLevel : Nat) (a_nibble : Nat) (a_counts : Nat) (a_good : Nat) (v_ownSource : Int32) (v_ownTarget : Int32) (gl : Nat) (v_frames : Int32) (v_bitCount : Int32) (v_bitAt : Int32) (v_inFrame : Int32) (v_idle : Int32) (v_register : Int32) (v_phase : Int32) (v_size : Int32) (v_now : Int32) (v_got : Int32) (v_ear : Int32) (v_run : Int32) (v_locked : Int32) (v_reads : Int32) (v_quiet : Int32) (v_ones : Int32) (v_last : Int32) (v_heard : Int32) (v_ending : Int32) (v_started : Int32) (v_faulty : Int32) (v_nibbles : Int32) (v_ended : Int32) (v_any : Int32) (v_goodSource : Int32) (v_goodLength : Int32) (x : Int32) (hb0 : isB x = true) (hg : gl = 24) : Met l yX8_data wsX8_data ({ frames := 1, cells := 0, slots := 0, locals := 20 }) (PC D cI cG tt [.ref h0, .int x] [(h0, .inr (8, [.int v_ownSource, .int v_ownTarget, .int (nI gl), .ref a_gift, .int v_frames, .ref a_queue, .int v_bitCount, .int v_bitAt, .ref a_bits, .int v_inFrame, .int v_idle, .int v_register, .int v_phase, .int v_size, .ref a_bytes, .int v_now, .ref a_hitTime, .ref a_hitLevel, .int v_got, .int v_ear, .int v_run, .int v_locked, .int v_reads, .int v_quiet, .int v_ones, .int v_last, .int v_heard, .int v_ending, .int v_started, .int v_faulty, .int v_nibbles, .ref a_nibble, .ref a_counts, .int v_ended, .int v_any, .int v_goodSource, .int v_goodLength, .ref a_good]))] sz) (QI (fun (r : Int32) (u : Unit) => r = (-2)) (fun (u : Unit) => [(h0, .inr (8, [.int v_ownSource, .int v_ownTarget, .int (nI gl), .ref a_gift, .int v_frames, .ref a_queue, .int v_bitCount, .int v_bitAt, .ref a_bits, .int v_inFrame, .int v_idle, .int v_register, .int v_phase, .int v_size, .ref a_bytes, .int v_now, .ref a_hitTime, .ref a_hitLevel, .int v_got, .int v_ear, .int v_run, .int v_locked, .int v_reads, .int v_quiet, .int v_ones, .int v_last, .int v_heard, .int v_ending, .int v_started, .int v_faulty, .int v_nibbles, .ref a_nibble, .ref a_counts, .int v_ended, .int v_any, .int v_goodSource, .int v_goodLength, .ref a_good]))]) D (va_A [(h0, .inr (8, [.int v_ownSource, .int v_ownTarget, .int (nI gl), .ref a_gift, .int v_frames, .ref a_queue, .int v_bitCount, .int v_bitAt, .ref a_bits, .int v_inFrame, .int v_idle, .int v_register, .int v_phase, .int v_size, .ref a_bytes, .int v_now, .ref a_hitTime, .ref a_hitLevel, .int v_got, .int v_ear, .int v_run, .int v_locked, .int v_reads, .int v_quiet, .int v_ones, .int v_last, .int v_heard, .int v_ending, .int v_started, .int v_faulty, .int v_nibbles, .ref a_nibble, .ref a_counts, .int v_ended, .int v_any, .int v_goodSource, .int v_goodLength, .ref a_good]))] sz)) 0 0 (va_A [(h0, .inr (8, [.int v_ownSource, .int v_ownTarget, .int (nI gl), .ref a_gift, .int v_frames, .ref a_queue, .int v_bitCount, .int v_bitAt, .ref a_bits, .int v_inFrame, .int v_idle, .int v_register, .int v_phase, .int v_size, .ref a_bytes, .int v_now, .ref a_hitTime, .ref a_hitLevel, .int v_got, .int v_ear, .int v_run, .int v_locked, .int v_reads, .int v_quiet, .int v_ones, .int v_last, .int v_heard, .int v_ending, .int v_started, .int v_faulty, .int v_nibbles, .ref a_nibble, .ref a_counts, .int v_ended, .int v_any, .int v_goodSource, .int v_goodLength, .ref a_good]))] sz) := by
  refine ct_of (y := yX8_data) (cc := cX8_data) (maxL := 2) (ret := (some .int)) (Qf := QI (fun (r : Int32) (u : Unit) => r = (-2)) (fun (u : Unit) => [(h0, .inr (8, [.int v_ownSource, .int v_ownTarget, .int (nI gl), .ref a_gift, .int v_frames, .ref a_queue, .int v_bitCount, .int v_bitAt, .ref a_bits, .int v_inFrame, .int v_idle, .int v_register, .int v_phase, .int v_size, .ref a_bytes, .int v_now, .ref a_hitTime, .ref a_hitLevel, .int v_got, .int v_ear, .int v_run, .int v_locked, .int v_reads, .int v_quiet, .int v_ones, .int v_last, .int v_heard, .int v_ending, .int v_started, .int v_faulty, .int v_nibbles, .ref a_nibble, .ref a_counts, .int v_ended, .int v_any, .int v_goodSource, .int v_goodLength, .ref a_good]))]) D) (by decide) rfl ?_
  intro p e s m args below meth c A Q R H locs hR hQ hx hb hml hr hts hown hlocks hin hP hD hE hT hA hS
  have hK := hE.1
  have hl := lv_entry ([.ref h0, .int x]) (n := 2) (Nat.le_of_ble_eq_true rfl)
  rw [lg_entry_eq]
  generalize (lg_sl ([.ref h0, .int x]) ++ List.replicate (2 - (lg_sl ([.ref h0, .int x])).length) Slot.unset).toArray = ls at hl ⊢
  have hl : lv_has ls 2 [(0, .ref h0), (1, .int x)] := hl
  refine lv_iload_n hx hb dX8_data_0 rfl (lv_at hl 1 rfl) ?_
  refine ca_i (wr := [(h0, .inr (8, [.int v_ownSource, .int v_ownTarget, .int (nI gl), .ref a_gift, .int v_frames, .ref a_queue, .int v_bitCount, .int v_bitAt, .ref a_bits, .int v_inFrame, .int v_idle, .int v_register, .int v_phase, .int v_size, .ref a_bytes, .int v_now, .ref a_hitTime, .ref a_hitLevel, .int v_got, .int v_ear, .int v_run, .int v_locked, .int v_reads, .int v_quiet, .int v_ones, .int v_last, .int v_heard, .int v_ending, .int v_started, .int v_faulty, .int v_nibbles, .ref a_nibble, .ref a_counts, .int v_ended, .int v_any, .int v_goodSource, .int v_goodLength, .ref a_good]))]) (ru_S (As := [.int x]) (rest := []) ⟨hx, hb, hml, hown, hts⟩ (c_X8_isByte l D cI cG tt H.size x) (cwS 1 hts gX8_data_X8_isByte rfl rfl rfl (by decide +kernel) ⟨by rw [hR]; exact Nat.le_of_ble_eq_true rfl, by rw [hR]; exact Nat.le_of_ble_eq_true rfl⟩) hP hD hE hT hS hA [] rfl (by decide) rfl hl.1 rfl (Nat.le_of_ble_eq_true rfl) dX8_data_1 ⟨by rw [hR]; exact Nat.le_of_ble_eq_true rfl, by rw [hR]; exact Nat.le_of_ble_eq_true rfl⟩) hP hD hS hA [] [0] rfl rfl (by decide) (by decide) (fun r1 u H locs hw hP hD hS => ?_)
  obtain rfl := hw
  have hP : va_P D vwCl [(h0, .inr (8, [.int v_ownSource, .int v_ownTarget, .int (nI gl), .ref a_gift, .int v_frames, .ref a_queue, .int v_bitCount, .int v_bitAt, .ref a_bits, .int v_inFrame, .int v_idle, .int v_register, .int v_phase, .int v_size, .ref a_bytes, .int v_now, .ref a_hitTime, .ref a_hitLevel, .int v_got, .int v_ear, .int v_run, .int v_locked, .int v_reads, .int v_quiet, .int v_ones, .int v_last, .int v_heard, .int v_ending, .int v_started, .int v_faulty, .int v_nibbles, .ref a_nibble, .ref a_counts, .int v_ended, .int v_any, .int v_goodSource, .int v_goodLength, .ref a_good]))] H := hP
  have hD : va_D A [(h0, .inr (8, [.int v_ownSource, .int v_ownTarget, .int (nI gl), .ref a_gift, .int v_frames, .ref a_queue, .int v_bitCount, .int v_bitAt, .ref a_bits, .int v_inFrame, .int v_idle, .int v_register, .int v_phase, .int v_size, .ref a_bytes, .int v_now, .ref a_hitTime, .ref a_hitLevel, .int v_got, .int v_ear, .int v_run, .int v_locked, .int v_reads, .int v_quiet, .int v_ones, .int v_last, .int v_heard, .int v_ending, .int v_started, .int v_faulty, .int v_nibbles, .ref a_nibble, .ref a_counts, .int v_ended, .int v_any, .int v_goodSource, .int v_goodLength, .ref a_good]))] := hD
  refine lv_to (y := bI true) (by rw [hb0]) ?_
  refine lv_if_ne (tgt := 9) hx hb dX8_data_4 (by decide) (fun c4 => ?_) (fun c4 => ?_)
  · skip
    have k4 : true = true := bI_t c4
    refine lv_aload_n hx hb dX8_data_9 rfl (lv_at hl 0 rfl) ?_
    refine va_get (D := D) (ci := 8) (v := .int (nI gl)) (C := RX8) (T := TX8) (N := 38) hx hb hts inX8_data_X8 hown hK hP 0 rfl rfl 2 (by decide) (hts (.fieldLink RX8 51 "ScrambledLineModel" "given" "I") (by decide +kernel)) (fun _ h9 => h9) rfl dX8_data_10 ?_
    refine lv_bipush (v := nI 24) hx hb dX8_data_13 rfl ?_
    refine lv_icmp_ne (tgt := 21) hx hb dX8_data_15 (by decide) (fun c15 => ?_) (fun c15 => ?_)
    · skip
      have k15 : ¬ gl = 24 := fun zq => c15 ((nI_eq (a := gl) (b := 24) (by omega) (by omega)).mpr zq)
      exact False.elim (by omega)
    · skip
      have k15 : gl = 24 := (nI_eq (a := gl) (b := 24) (by omega) (by omega)).mp c15
      refine lv_bipush (v := (-2)) hx hb dX8_data_18 rfl ?_
      refine W_q hQ ?_
      exact rt_i () hx hb hr hlocks dX8_data_20 hS hP hD rfl
  · skip
    have k4 : true = false := bI_f c4
    exact absurd k4 (by decide)

set_option maxHeartbeats 4000000 in
set_option maxRecDepth 100000 in
theorem c_X8_data (l : Launch) (D : va_G) (cI cG : ClassId) (tt : Nat × Nat × Nat) (sz : Nat) (h0 : Nat) (a_gift : Nat) (a_queue : Nat) (a_bits : Nat) (a_bytes : Nat) (a_hitTime : Nat) (a_hitLevel : Nat) (a_nibble : Nat) (a_counts : Nat) (a_good : Nat) (v_ownSource : Int32) (v_ownTarget : Int32) (gl : Nat) (v_frames : Int32) (v_bitCount : Int32) (v_bitAt : Int32) (v_inFrame : Int32) (v_idle : Int32) (v_register : Int32) (v_phase : Int32) (v_size : Int32) (v_now : Int32) (v_got : Int32) (v_ear : Int32) (v_run : Int32) (v_locked : Int32) (v_reads : Int32) (v_quiet : Int32) (v_ones : Int32) (v_last : Int32) (v_heard : Int32) (v_ending : Int32) (v_started : Int32) (v_faulty : Int32) (v_nibbles : Int32) (v_ended : Int32) (v_any : Int32) (v_goodSource : Int32) (v_goodLength : Int32) (gf : Nat → Int32) (x : Int32) (hb0 : isB x = true) (hg : gl < 24) : Met l yX8_data wsX8_data ({ frames := 1, cells := 0, slots := 0, locals := 20 }) (PC D cI cG tt [.ref h0, .int x] [(h0, .inr (8, [.int v_ownSource, .int v_ownTarget, .int (nI gl), .ref a_gift, .int v_frames, .ref a_queue, .int v_bitCount, .int v_bitAt, .ref a_bits, .int v_inFrame, .int v_idle, .int v_register, .int v_phase, .int v_size, .ref a_bytes, .int v_now, .ref a_hitTime, .ref a_hitLevel, .int v_got, .int v_ear, .int v_run, .int v_locked, .int v_reads, .int v_quiet, .int v_ones, .int v_last, .int v_heard, .int v_ending, .int v_started, .int v_faulty, .int v_nibbles, .ref a_nibble, .ref a_counts, .int v_ended, .int v_any, .int v_goodSource, .int v_goodLength, .ref a_good])), (a_gift, .inl (cI, 24, .inl gf))] sz) (QI (fun (r : Int32) (u : Unit) => r = nI (gl + 1)) (fun (u : Unit) => [(h0, .inr (8, [.int v_ownSource, .int v_ownTarget, .int (nI (gl + 1)), .ref a_gift, .int v_frames, .ref a_queue, .int v_bitCount, .int v_bitAt, .ref a_bits, .int v_inFrame, .int v_idle, .int v_register, .int v_phase, .int v_size, .ref a_bytes, .int v_now, .ref a_hitTime, .ref a_hitLevel, .int v_got, .int v_ear, .int v_run, .int v_locked, .int v_reads, .int v_quiet, .int v_ones, .int v_last, .int v_heard, .int v_ending, .int v_started, .int v_faulty, .int v_nibbles, .ref a_nibble, .ref a_counts, .int v_ended, .int v_any, .int v_goodSource, .int v_goodLength, .ref a_good])), (a_gift, .inl (cI, 24, .inl (upd gf gl x)))]) D (va_A [(h0, .inr (8, [.int v_ownSource, .int v_ownTarget, .int (nI gl), .ref a_gift, .int v_frames, .ref a_queue, .int v_bitCount, .int v_bitAt, .ref a_bits, .int v_inFrame, .int v_idle, .int v_register, .int v_phase, .int v_size, .ref a_bytes, .int v_now, .ref a_hitTime, .ref a_hitLevel, .int v_got, .int v_ear, .int v_run, .int v_locked, .int v_reads, .int v_quiet, .int v_ones, .int v_last, .int v_heard, .int v_ending, .int v_started, .int v_faulty, .int v_nibbles, .ref a_nibble, .ref a_counts, .int v_ended, .int v_any, .int v_goodSource, .int v_goodLength, .ref a_good])), (a_gift, .inl (cI, 24, .inl gf))] sz)) 0 0 (va_A [(h0, .inr (8, [.int v_ownSource, .int v_ownTarget, .int (nI gl), .ref a_gift, .int v_frames, .ref a_queue, .int v_bitCount, .int v_bitAt, .ref a_bits, .int v_inFrame, .int v_idle, .int v_register, .int v_phase, .int v_size, .ref a_bytes, .int v_now, .ref a_hitTime, .ref a_hitLevel, .int v_got, .int v_ear, .int v_run, .int v_locked, .int v_reads, .int v_quiet, .int v_ones, .int v_last, .int v_heard, .int v_ending, .int v_started, .int v_faulty, .int v_nibbles, .ref a_nibble, .ref a_counts, .int v_ended, .int v_any, .int v_goodSource, .int v_goodLength, .ref a_good])), (a_gift, .inl (cI, 24, .inl gf))] sz) := by
  refine ct_of (y := yX8_data) (cc := cX8_data) (maxL := 2) (ret := (some .int)) (Qf := QI (fun (r : Int32) (u : Unit) => r = nI (gl + 1)) (fun (u : Unit) => [(h0, .inr (8, [.int v_ownSource, .int v_ownTarget, .int (nI (gl + 1)), .ref a_gift, .int v_frames, .ref a_queue, .int v_bitCount, .int v_bitAt, .ref a_bits, .int v_inFrame, .int v_idle, .int v_register, .int v_phase, .int v_size, .ref a_bytes, .int v_now, .ref a_hitTime, .ref a_hitLevel, .int v_got, .int v_ear, .int v_run, .int v_locked, .int v_reads, .int v_quiet, .int v_ones, .int v_last, .int v_heard, .int v_ending, .int v_started, .int v_faulty, .int v_nibbles, .ref a_nibble, .ref a_counts, .int v_ended, .int v_any, .int v_goodSource, .int v_goodLength, .ref a_good])), (a_gift, .inl (cI, 24, .inl (upd gf gl x)))]) D) (by decide) rfl ?_
  intro p e s m args below meth c A Q R H locs hR hQ hx hb hml hr hts hown hlocks hin hP hD hE hT hA hS
  have hK := hE.1
  have hl := lv_entry ([.ref h0, .int x]) (n := 2) (Nat.le_of_ble_eq_true rfl)
  rw [lg_entry_eq]
  generalize (lg_sl ([.ref h0, .int x]) ++ List.replicate (2 - (lg_sl ([.ref h0, .int x])).length) Slot.unset).toArray = ls at hl ⊢
  have hl : lv_has ls 2 [(0, .ref h0), (1, .int x)] := hl
  refine lv_iload_n hx hb dX8_data_0 rfl (lv_at hl 1 rfl) ?_
  refine ca_i (wr := [(h0, .inr (8, [.int v_ownSource, .int v_ownTarget, .int (nI gl), .ref a_gift, .int v_frames, .ref a_queue, .int v_bitCount, .int v_bitAt, .ref a_bits, .int v_inFrame, .int v_idle, .int v_register, .int v_phase, .int v_size, .ref a_bytes, .int v_now, .ref a_hitTime, .ref a_hitLevel, .int v_got, .int v_ear, .int v_run, .int v_locked, .int v_reads, .int v_quiet, .int v_ones, .int v_last, .int v_heard, .int v_ending, .int v_started, .int v_faulty, .int v_nibbles, .ref a_nibble, .ref a_counts, .int v_ended, .int v_any, .int v_goodSource, .int v_goodLength, .ref a_good])), (a_gift, .inl (cI, 24, .inl gf))]) (ru_S (As := [.int x]) (rest := []) ⟨hx, hb, hml, hown, hts⟩ (c_X8_isByte l D cI cG tt H.size x) (cwS 1 hts gX8_data_X8_isByte rfl rfl rfl (by decide +kernel) ⟨by rw [hR]; exact Nat.le_of_ble_eq_true rfl, by rw [hR]; exact Nat.le_of_ble_eq_true rfl⟩) hP hD hE hT hS hA [] rfl (by decide) rfl hl.1 rfl (Nat.le_of_ble_eq_true rfl) dX8_data_1 ⟨by rw [hR]; exact Nat.le_of_ble_eq_true rfl, by rw [hR]; exact Nat.le_of_ble_eq_true rfl⟩) hP hD hS hA [] [0, 1] rfl rfl (by decide) (by decide) (fun r1 u H locs hw hP hD hS => ?_)
  obtain rfl := hw
  have hP : va_P D vwCl [(h0, .inr (8, [.int v_ownSource, .int v_ownTarget, .int (nI gl), .ref a_gift, .int v_frames, .ref a_queue, .int v_bitCount, .int v_bitAt, .ref a_bits, .int v_inFrame, .int v_idle, .int v_register, .int v_phase, .int v_size, .ref a_bytes, .int v_now, .ref a_hitTime, .ref a_hitLevel, .int v_got, .int v_ear, .int v_run, .int v_locked, .int v_reads, .int v_quiet, .int v_ones, .int v_last, .int v_heard, .int v_ending, .int v_started, .int v_faulty, .int v_nibbles, .ref a_nibble, .ref a_counts, .int v_ended, .int v_any, .int v_goodSource, .int v_goodLength, .ref a_good])), (a_gift, .inl (cI, 24, .inl gf))] H := hP
  have hD : va_D A [(h0, .inr (8, [.int v_ownSource, .int v_ownTarget, .int (nI gl), .ref a_gift, .int v_frames, .ref a_queue, .int v_bitCount, .int v_bitAt, .ref a_bits, .int v_inFrame, .int v_idle, .int v_register, .int v_phase, .int v_size, .ref a_bytes, .int v_now, .ref a_hitTime, .ref a_hitLevel, .int v_got, .int v_ear, .int v_run, .int v_locked, .int v_reads, .int v_quiet, .int v_ones, .int v_last, .int v_heard, .int v_ending, .int v_started, .int v_faulty, .int v_nibbles, .ref a_nibble, .ref a_counts, .int v_ended, .int v_any, .int v_goodSource, .int v_goodLength, .ref a_good])), (a_gift, .inl (cI, 24, .inl gf))] := hD
  refine lv_to (y := bI true) (by rw [hb0]) ?_
  refine lv_if_ne (tgt := 9) hx hb dX8_data_4 (by decide) (fun c4 => ?_) (fun c4 => ?_)
  · skip
    have k4 : true = true := bI_t c4
    refine lv_aload_n hx hb dX8_data_9 rfl (lv_at hl 0 rfl) ?_
    refine va_get (D := D) (ci := 8) (v := .int (nI gl)) (C := RX8) (T := TX8) (N := 38) hx hb hts inX8_data_X8 hown hK hP 0 rfl rfl 2 (by decide) (hts (.fieldLink RX8 51 "ScrambledLineModel" "given" "I") (by decide +kernel)) (fun _ h9 => h9) rfl dX8_data_10 ?_
    refine lv_bipush (v := nI 24) hx hb dX8_data_13 rfl ?_
    refine lv_icmp_ne (tgt := 21) hx hb dX8_data_15 (by decide) (fun c15 => ?_) (fun c15 => ?_)
    · skip
      have k15 : ¬ gl = 24 := fun zq => c15 ((nI_eq (a := gl) (b := 24) (by omega) (by omega)).mpr zq)
      refine lv_aload_n hx hb dX8_data_21 rfl (lv_at hl 0 rfl) ?_
      refine va_get (D := D) (ci := 8) (v := .ref a_gift) (C := RX8) (T := TX8) (N := 38) hx hb hts inX8_data_X8 hown hK hP 0 rfl rfl 3 (by decide) (hts (.fieldLink RX8 7 "ScrambledLineModel" "gift" "[I") (by decide +kernel)) (fun _ h9 => h9) rfl dX8_data_22 ?_
      refine lv_aload_n hx hb dX8_data_25 rfl (lv_at hl 0 rfl) ?_
      refine va_get (D := D) (ci := 8) (v := .int (nI gl)) (C := RX8) (T := TX8) (N := 38) hx hb hts inX8_data_X8 hown hK hP 0 rfl rfl 2 (by decide) (hts (.fieldLink RX8 51 "ScrambledLineModel" "given" "I") (by decide +kernel)) (fun _ h9 => h9) rfl dX8_data_26 ?_
      refine lv_iload_n hx hb dX8_data_29 rfl (lv_at hl 1 rfl) ?_
      refine gs_i hx hb hK hP hD hS 1 rfl (i := gl) (x := x) (by omega) (by first | decide | omega) dX8_data_30 (fun H locs hP hD hS => ?_)
      have hP : va_P D vwCl [(h0, .inr (8, [.int v_ownSource, .int v_ownTarget, .int (nI gl), .ref a_gift, .int v_frames, .ref a_queue, .int v_bitCount, .int v_bitAt, .ref a_bits, .int v_inFrame, .int v_idle, .int v_register, .int v_phase, .int v_size, .ref a_bytes, .int v_now, .ref a_hitTime, .ref a_hitLevel, .int v_got, .int v_ear, .int v_run, .int v_locked, .int v_reads, .int v_quiet, .int v_ones, .int v_last, .int v_heard, .int v_ending, .int v_started, .int v_faulty, .int v_nibbles, .ref a_nibble, .ref a_counts, .int v_ended, .int v_any, .int v_goodSource, .int v_goodLength, .ref a_good])), (a_gift, .inl (cI, 24, .inl (upd gf gl x)))] H := hP
      have hD : va_D A [(h0, .inr (8, [.int v_ownSource, .int v_ownTarget, .int (nI gl), .ref a_gift, .int v_frames, .ref a_queue, .int v_bitCount, .int v_bitAt, .ref a_bits, .int v_inFrame, .int v_idle, .int v_register, .int v_phase, .int v_size, .ref a_bytes, .int v_now, .ref a_hitTime, .ref a_hitLevel, .int v_got, .int v_ear, .int v_run, .int v_locked, .int v_reads, .int v_quiet, .int v_ones, .int v_last, .int v_heard, .int v_ending, .int v_started, .int v_faulty, .int v_nibbles, .ref a_nibble, .ref a_counts, .int v_ended, .int v_any, .int v_goodSource, .int v_goodLength, .ref a_good])), (a_gift, .inl (cI, 24, .inl (upd gf gl x)))] := hD
      refine lv_aload_n hx hb dX8_data_31 rfl (lv_at hl 0 rfl) ?_
      refine lv_dup hx hb dX8_data_32 rfl ?_
      refine va_get (D := D) (ci := 8) (v := .int (nI gl)) (C := RX8) (T := TX8) (N := 38) hx hb hts inX8_data_X8 hown hK hP 0 rfl rfl 2 (by decide) (hts (.fieldLink RX8 51 "ScrambledLineModel" "given" "I") (by decide +kernel)) (fun _ h9 => h9) rfl dX8_data_33 ?_
      refine lv_iconst (v := nI 1) hx hb dX8_data_36 rfl ?_
      refine lv_iadd hx hb dX8_data_37 ?_
      refine lv_to (y := nI (gl + 1)) (nI_add gl 1) ?_
      refine va_put (D := D) (ci := 8) (v := .int (nI (gl + 1))) (ty := .int) (C := RX8) (T := TX8) (N := 38) hx hb hts inX8_data_X8 tyX8 tyX8_ok nmX8 hown hK hP hD hS 0 rfl rfl 2 (by decide) (hts (.fieldLink RX8 51 "ScrambledLineModel" "given" "I") (by decide +kernel)) (fun _ h9 => h9) rfl (by decide +kernel) rfl rfl (Nat.le_of_ble_eq_true rfl) dX8_data_38 (fun H locs hP hD hS => ?_)
      have hP : va_P D vwCl [(h0, .inr (8, [.int v_ownSource, .int v_ownTarget, .int (nI (gl + 1)), .ref a_gift, .int v_frames, .ref a_queue, .int v_bitCount, .int v_bitAt, .ref a_bits, .int v_inFrame, .int v_idle, .int v_register, .int v_phase, .int v_size, .ref a_bytes, .int v_now, .ref a_hitTime, .ref a_hitLevel, .int v_got, .int v_ear, .int v_run, .int v_locked, .int v_reads, .int v_quiet, .int v_ones, .int v_last, .int v_heard, .int v_ending, .int v_started, .int v_faulty, .int v_nibbles, .ref a_nibble, .ref a_counts, .int v_ended, .int v_any, .int v_goodSource, .int v_goodLength, .ref a_good])), (a_gift, .inl (cI, 24, .inl (upd gf gl x)))] H := hP
      have hD : va_D A [(h0, .inr (8, [.int v_ownSource, .int v_ownTarget, .int (nI (gl + 1)), .ref a_gift, .int v_frames, .ref a_queue, .int v_bitCount, .int v_bitAt, .ref a_bits, .int v_inFrame, .int v_idle, .int v_register, .int v_phase, .int v_size, .ref a_bytes, .int v_now, .ref a_hitTime, .ref a_hitLevel, .int v_got, .int v_ear, .int v_run, .int v_locked, .int v_reads, .int v_quiet, .int v_ones, .int v_last, .int v_heard, .int v_ending, .int v_started, .int v_faulty, .int v_nibbles, .ref a_nibble, .ref a_counts, .int v_ended, .int v_any, .int v_goodSource, .int v_goodLength, .ref a_good])), (a_gift, .inl (cI, 24, .inl (upd gf gl x)))] := hD
      refine lv_aload_n hx hb dX8_data_41 rfl (lv_at hl 0 rfl) ?_
      refine va_get (D := D) (ci := 8) (v := .int (nI (gl + 1))) (C := RX8) (T := TX8) (N := 38) hx hb hts inX8_data_X8 hown hK hP 0 rfl rfl 2 (by decide) (hts (.fieldLink RX8 51 "ScrambledLineModel" "given" "I") (by decide +kernel)) (fun _ h9 => h9) rfl dX8_data_42 ?_
      refine W_q hQ ?_
      exact rt_i () hx hb hr hlocks dX8_data_45 hS hP hD rfl
    · skip
      have k15 : gl = 24 := (nI_eq (a := gl) (b := 24) (by omega) (by omega)).mp c15
      exact False.elim (by omega)
  · skip
    have k4 : true = false := bI_f c4
    exact absurd k4 (by decide)

set_option maxHeartbeats 4000000 in
set_option maxRecDepth 100000 in
theorem c_X8_send_bad (l : Launch) (D : va_G) (cI cG : ClassId) (tt : Nat × Nat × Nat) (sz : Nat) (h0 : Nat) (a_gift : Nat) (a_queue : Nat) (a_bits : Nat) (a_bytes : Nat) (a_hitTime : Nat) (a_hitLevel : Nat) (a_nibble : Nat) (a_counts : Nat) (a_good : Nat) (v_ownSource : Int32) (v_ownTarget : Int32) (v_given : Int32) (v_frames : Int32) (v_bitCount : Int32) (v_bitAt : Int32) (v_inFrame : Int32) (v_idle : Int32) (v_register : Int32) (v_phase : Int32) (v_size : Int32) (v_now : Int32) (v_got : Int32) (v_ear : Int32) (v_run : Int32) (v_locked : Int32) (v_reads : Int32) (v_quiet : Int32) (v_ones : Int32) (v_last : Int32) (v_heard : Int32) (v_ending : Int32) (v_started : Int32) (v_faulty : Int32) (v_nibbles : Int32) (v_ended : Int32) (v_any : Int32) (v_goodSource : Int32) (v_goodLength : Int32) (x : Int32) (hb0 : isB x = false) : Met l yX8_send wsX8_send ({ frames := 1, cells := 0, slots := 0, locals := 20 }) (PC D cI cG tt [.ref h0, .int x] [(h0, .inr (8, [.int v_ownSource, .int v_ownTarget, .int v_given, .ref a_gift, .int v_frames, .ref a_queue, .int v_bitCount, .int v_bitAt, .ref a_bits, .int v_inFrame, .int v_idle, .int v_register, .int v_phase, .int v_size, .ref a_bytes, .int v_now, .ref a_hitTime, .ref a_hitLevel, .int v_got, .int v_ear, .int v_run, .int v_locked, .int v_reads, .int v_quiet, .int v_ones, .int v_last, .int v_heard, .int v_ending, .int v_started, .int v_faulty, .int v_nibbles, .ref a_nibble, .ref a_counts, .int v_ended, .int v_any, .int v_goodSource, .int v_goodLength, .ref a_good]))] sz) (QI (fun (r : Int32) (u : Unit) => r = (-1)) (fun (u : Unit) => [(h0, .inr (8, [.int v_ownSource, .int v_ownTarget, .int v_given, .ref a_gift, .int v_frames, .ref a_queue, .int v_bitCount, .int v_bitAt, .ref a_bits, .int v_inFrame, .int v_idle, .int v_register, .int v_phase, .int v_size, .ref a_bytes, .int v_now, .ref a_hitTime, .ref a_hitLevel, .int v_got, .int v_ear, .int v_run, .int v_locked, .int v_reads, .int v_quiet, .int v_ones, .int v_last, .int v_heard, .int v_ending, .int v_started, .int v_faulty, .int v_nibbles, .ref a_nibble, .ref a_counts, .int v_ended, .int v_any, .int v_goodSource, .int v_goodLength, .ref a_good]))]) D (va_A [(h0, .inr (8, [.int v_ownSource, .int v_ownTarget, .int v_given, .ref a_gift, .int v_frames, .ref a_queue, .int v_bitCount, .int v_bitAt, .ref a_bits, .int v_inFrame, .int v_idle, .int v_register, .int v_phase, .int v_size, .ref a_bytes, .int v_now, .ref a_hitTime, .ref a_hitLevel, .int v_got, .int v_ear, .int v_run, .int v_locked, .int v_reads, .int v_quiet, .int v_ones, .int v_last, .int v_heard, .int v_ending, .int v_started, .int v_faulty, .int v_nibbles, .ref a_nibble, .ref a_counts, .int v_ended, .int v_any, .int v_goodSource, .int v_goodLength, .ref a_good]))] sz)) 0 0 (va_A [(h0, .inr (8, [.int v_ownSource, .int v_ownTarget, .int v_given, .ref a_gift, .int v_frames, .ref a_queue, .int v_bitCount, .int v_bitAt, .ref a_bits, .int v_inFrame, .int v_idle, .int v_register, .int v_phase, .int v_size, .ref a_bytes, .int v_now, .ref a_hitTime, .ref a_hitLevel, .int v_got, .int v_ear, .int v_run, .int v_locked, .int v_reads, .int v_quiet, .int v_ones, .int v_last, .int v_heard, .int v_ending, .int v_started, .int v_faulty, .int v_nibbles, .ref a_nibble, .ref a_counts, .int v_ended, .int v_any, .int v_goodSource, .int v_goodLength, .ref a_good]))] sz) := by
  refine ct_of (y := yX8_send) (cc := cX8_send) (maxL := 3) (ret := (some .int)) (Qf := QI (fun (r : Int32) (u : Unit) => r = (-1)) (fun (u : Unit) => [(h0, .inr (8, [.int v_ownSource, .int v_ownTarget, .int v_given, .ref a_gift, .int v_frames, .ref a_queue, .int v_bitCount, .int v_bitAt, .ref a_bits, .int v_inFrame, .int v_idle, .int v_register, .int v_phase, .int v_size, .ref a_bytes, .int v_now, .ref a_hitTime, .ref a_hitLevel, .int v_got, .int v_ear, .int v_run, .int v_locked, .int v_reads, .int v_quiet, .int v_ones, .int v_last, .int v_heard, .int v_ending, .int v_started, .int v_faulty, .int v_nibbles, .ref a_nibble, .ref a_counts, .int v_ended, .int v_any, .int v_goodSource, .int v_goodLength, .ref a_good]))]) D) (by decide) rfl ?_
  intro p e s m args below meth c A Q R H locs hR hQ hx hb hml hr hts hown hlocks hin hP hD hE hT hA hS
  have hK := hE.1
  have hl := lv_entry ([.ref h0, .int x]) (n := 3) (Nat.le_of_ble_eq_true rfl)
  rw [lg_entry_eq]
  generalize (lg_sl ([.ref h0, .int x]) ++ List.replicate (3 - (lg_sl ([.ref h0, .int x])).length) Slot.unset).toArray = ls at hl ⊢
  have hl : lv_has ls 3 [(0, .ref h0), (1, .int x)] := hl
  refine lv_iload_n hx hb dX8_send_0 rfl (lv_at hl 1 rfl) ?_
  refine ca_i (wr := [(h0, .inr (8, [.int v_ownSource, .int v_ownTarget, .int v_given, .ref a_gift, .int v_frames, .ref a_queue, .int v_bitCount, .int v_bitAt, .ref a_bits, .int v_inFrame, .int v_idle, .int v_register, .int v_phase, .int v_size, .ref a_bytes, .int v_now, .ref a_hitTime, .ref a_hitLevel, .int v_got, .int v_ear, .int v_run, .int v_locked, .int v_reads, .int v_quiet, .int v_ones, .int v_last, .int v_heard, .int v_ending, .int v_started, .int v_faulty, .int v_nibbles, .ref a_nibble, .ref a_counts, .int v_ended, .int v_any, .int v_goodSource, .int v_goodLength, .ref a_good]))]) (ru_S (As := [.int x]) (rest := []) ⟨hx, hb, hml, hown, hts⟩ (c_X8_isByte l D cI cG tt H.size x) (cwS 1 hts gX8_send_X8_isByte rfl rfl rfl (by decide +kernel) ⟨by rw [hR]; exact Nat.le_of_ble_eq_true rfl, by rw [hR]; exact Nat.le_of_ble_eq_true rfl⟩) hP hD hE hT hS hA [] rfl (by decide) rfl hl.1 rfl (Nat.le_of_ble_eq_true rfl) dX8_send_1 ⟨by rw [hR]; exact Nat.le_of_ble_eq_true rfl, by rw [hR]; exact Nat.le_of_ble_eq_true rfl⟩) hP hD hS hA [] [0] rfl rfl (by decide) (by decide) (fun r1 u H locs hw hP hD hS => ?_)
  obtain rfl := hw
  have hP : va_P D vwCl [(h0, .inr (8, [.int v_ownSource, .int v_ownTarget, .int v_given, .ref a_gift, .int v_frames, .ref a_queue, .int v_bitCount, .int v_bitAt, .ref a_bits, .int v_inFrame, .int v_idle, .int v_register, .int v_phase, .int v_size, .ref a_bytes, .int v_now, .ref a_hitTime, .ref a_hitLevel, .int v_got, .int v_ear, .int v_run, .int v_locked, .int v_reads, .int v_quiet, .int v_ones, .int v_last, .int v_heard, .int v_ending, .int v_started, .int v_faulty, .int v_nibbles, .ref a_nibble, .ref a_counts, .int v_ended, .int v_any, .int v_goodSource, .int v_goodLength, .ref a_good]))] H := hP
  have hD : va_D A [(h0, .inr (8, [.int v_ownSource, .int v_ownTarget, .int v_given, .ref a_gift, .int v_frames, .ref a_queue, .int v_bitCount, .int v_bitAt, .ref a_bits, .int v_inFrame, .int v_idle, .int v_register, .int v_phase, .int v_size, .ref a_bytes, .int v_now, .ref a_hitTime, .ref a_hitLevel, .int v_got, .int v_ear, .int v_run, .int v_locked, .int v_reads, .int v_quiet, .int v_ones, .int v_last, .int v_heard, .int v_ending, .int v_started, .int v_faulty, .int v_nibbles, .ref a_nibble, .ref a_counts, .int v_ended, .int v_any, .int v_goodSource, .int v_goodLength, .ref a_good]))] := hD
  refine lv_to (y := bI false) (by rw [hb0]) ?_
  refine lv_if_ne (tgt := 9) hx hb dX8_send_4 (by decide) (fun c4 => ?_) (fun c4 => ?_)
  · skip
    have k4 : false = true := bI_t c4
    exact absurd k4 (by decide)
  · skip
    have k4 : false = false := bI_f c4
    refine lv_iconst (v := (-1)) hx hb dX8_send_7 rfl ?_
    refine W_q hQ ?_
    exact rt_i () hx hb hr hlocks dX8_send_8 hS hP hD rfl

theorem inX8_send_X8 : ∀ w ∈ u_ws RX8 TX8 38, w ∈ wsX8_send := by decide +kernel
set_option maxHeartbeats 4000000 in
set_option maxRecDepth 100000 in
theorem c_X8_send_full (l : Launch) (D : va_G) (cI cG : ClassId) (tt : Nat × Nat × Nat) (sz : Nat) (h0 : Nat) (a_gift : Nat) (a_queue : Nat) (a_bits : Nat) (a_bytes : Nat) (a_hitTime : Nat) (a_hitLevel : Nat) (a_nibble : Nat) (a_counts : Nat) (a_good : Nat) (v_ownSource : Int32) (v_ownTarget : Int32) (v_given : Int32) (ql : Nat) (v_bitCount : Int32) (v_bitAt : Int32) (v_inFrame : Int32) (v_idle : Int32) (v_register : Int32) (v_phase : Int32) (v_size : Int32) (v_now : Int32) (v_got : Int32) (v_ear : Int32) (v_run : Int32) (v_locked : Int32) (v_reads : Int32) (v_quiet : Int32) (v_ones : Int32) (v_last : Int32) (v_heard : Int32) (v_ending : Int32) (v_started : Int32) (v_faulty : Int32) (v_nibbles : Int32) (v_ended : Int32) (v_any : Int32) (v_goodSource : Int32) (v_goodLength : Int32) (x : Int32) (hb0 : isB x = true) (hg : ql = 4) : Met l yX8_send wsX8_send ({ frames := 1, cells := 0, slots := 0, locals := 20 }) (PC D cI cG tt [.ref h0, .int x] [(h0, .inr (8, [.int v_ownSource, .int v_ownTarget, .int v_given, .ref a_gift, .int (nI ql), .ref a_queue, .int v_bitCount, .int v_bitAt, .ref a_bits, .int v_inFrame, .int v_idle, .int v_register, .int v_phase, .int v_size, .ref a_bytes, .int v_now, .ref a_hitTime, .ref a_hitLevel, .int v_got, .int v_ear, .int v_run, .int v_locked, .int v_reads, .int v_quiet, .int v_ones, .int v_last, .int v_heard, .int v_ending, .int v_started, .int v_faulty, .int v_nibbles, .ref a_nibble, .ref a_counts, .int v_ended, .int v_any, .int v_goodSource, .int v_goodLength, .ref a_good]))] sz) (QI (fun (r : Int32) (u : Unit) => r = (-2)) (fun (u : Unit) => [(h0, .inr (8, [.int v_ownSource, .int v_ownTarget, .int v_given, .ref a_gift, .int (nI ql), .ref a_queue, .int v_bitCount, .int v_bitAt, .ref a_bits, .int v_inFrame, .int v_idle, .int v_register, .int v_phase, .int v_size, .ref a_bytes, .int v_now, .ref a_hitTime, .ref a_hitLevel, .int v_got, .int v_ear, .int v_run, .int v_locked, .int v_reads, .int v_quiet, .int v_ones, .int v_last, .int v_heard, .int v_ending, .int v_started, .int v_faulty, .int v_nibbles, .ref a_nibble, .ref a_counts, .int v_ended, .int v_any, .int v_goodSource, .int v_goodLength, .ref a_good]))]) D (va_A [(h0, .inr (8, [.int v_ownSource, .int v_ownTarget, .int v_given, .ref a_gift, .int (nI ql), .ref a_queue, .int v_bitCount, .int v_bitAt, .ref a_bits, .int v_inFrame, .int v_idle, .int v_register, .int v_phase, .int v_size, .ref a_bytes, .int v_now, .ref a_hitTime, .ref a_hitLevel, .int v_got, .int v_ear, .int v_run, .int v_locked, .int v_reads, .int v_quiet, .int v_ones, .int v_last, .int v_heard, .int v_ending, .int v_started, .int v_faulty, .int v_nibbles, .ref a_nibble, .ref a_counts, .int v_ended, .int v_any, .int v_goodSource, .int v_goodLength, .ref a_good]))] sz)) 0 0 (va_A [(h0, .inr (8, [.int v_ownSource, .int v_ownTarget, .int v_given, .ref a_gift, .int (nI ql), .ref a_queue, .int v_bitCount, .int v_bitAt, .ref a_bits, .int v_inFrame, .int v_idle, .int v_register, .int v_phase, .int v_size, .ref a_bytes, .int v_now, .ref a_hitTime, .ref a_hitLevel, .int v_got, .int v_ear, .int v_run, .int v_locked, .int v_reads, .int v_quiet, .int v_ones, .int v_last, .int v_heard, .int v_ending, .int v_started, .int v_faulty, .int v_nibbles, .ref a_nibble, .ref a_counts, .int v_ended, .int v_any, .int v_goodSource, .int v_goodLength, .ref a_good]))] sz) := by
  refine ct_of (y := yX8_send) (cc := cX8_send) (maxL := 3) (ret := (some .int)) (Qf := QI (fun (r : Int32) (u : Unit) => r = (-2)) (fun (u : Unit) => [(h0, .inr (8, [.int v_ownSource, .int v_ownTarget, .int v_given, .ref a_gift, .int (nI ql), .ref a_queue, .int v_bitCount, .int v_bitAt, .ref a_bits, .int v_inFrame, .int v_idle, .int v_register, .int v_phase, .int v_size, .ref a_bytes, .int v_now, .ref a_hitTime, .ref a_hitLevel, .int v_got, .int v_ear, .int v_run, .int v_locked, .int v_reads, .int v_quiet, .int v_ones, .int v_last, .int v_heard, .int v_ending, .int v_started, .int v_faulty, .int v_nibbles, .ref a_nibble, .ref a_counts, .int v_ended, .int v_any, .int v_goodSource, .int v_goodLength, .ref a_good]))]) D) (by decide) rfl ?_
  intro p e s m args below meth c A Q R H locs hR hQ hx hb hml hr hts hown hlocks hin hP hD hE hT hA hS
  have hK := hE.1
  have hl := lv_entry ([.ref h0, .int x]) (n := 3) (Nat.le_of_ble_eq_true rfl)
  rw [lg_entry_eq]
  generalize (lg_sl ([.ref h0, .int x]) ++ List.replicate (3 - (lg_sl ([.ref h0, .int x])).length) Slot.unset).toArray = ls at hl ⊢
  have hl : lv_has ls 3 [(0, .ref h0), (1, .int x)] := hl
  refine lv_iload_n hx hb dX8_send_0 rfl (lv_at hl 1 rfl) ?_
  refine ca_i (wr := [(h0, .inr (8, [.int v_ownSource, .int v_ownTarget, .int v_given, .ref a_gift, .int (nI ql), .ref a_queue, .int v_bitCount, .int v_bitAt, .ref a_bits, .int v_inFrame, .int v_idle, .int v_register, .int v_phase, .int v_size, .ref a_bytes, .int v_now, .ref a_hitTime, .ref a_hitLevel, .int v_got, .int v_ear, .int v_run, .int v_locked, .int v_reads, .int v_quiet, .int v_ones, .int v_last, .int v_heard, .int v_ending, .int v_started, .int v_faulty, .int v_nibbles, .ref a_nibble, .ref a_counts, .int v_ended, .int v_any, .int v_goodSource, .int v_goodLength, .ref a_good]))]) (ru_S (As := [.int x]) (rest := []) ⟨hx, hb, hml, hown, hts⟩ (c_X8_isByte l D cI cG tt H.size x) (cwS 1 hts gX8_send_X8_isByte rfl rfl rfl (by decide +kernel) ⟨by rw [hR]; exact Nat.le_of_ble_eq_true rfl, by rw [hR]; exact Nat.le_of_ble_eq_true rfl⟩) hP hD hE hT hS hA [] rfl (by decide) rfl hl.1 rfl (Nat.le_of_ble_eq_true rfl) dX8_send_1 ⟨by rw [hR]; exact Nat.le_of_ble_eq_true rfl, by rw [hR]; exact Nat.le_of_ble_eq_true rfl⟩) hP hD hS hA [] [0] rfl rfl (by decide) (by decide) (fun r1 u H locs hw hP hD hS => ?_)
  obtain rfl := hw
  have hP : va_P D vwCl [(h0, .inr (8, [.int v_ownSource, .int v_ownTarget, .int v_given, .ref a_gift, .int (nI ql), .ref a_queue, .int v_bitCount, .int v_bitAt, .ref a_bits, .int v_inFrame, .int v_idle, .int v_register, .int v_phase, .int v_size, .ref a_bytes, .int v_now, .ref a_hitTime, .ref a_hitLevel, .int v_got, .int v_ear, .int v_run, .int v_locked, .int v_reads, .int v_quiet, .int v_ones, .int v_last, .int v_heard, .int v_ending, .int v_started, .int v_faulty, .int v_nibbles, .ref a_nibble, .ref a_counts, .int v_ended, .int v_any, .int v_goodSource, .int v_goodLength, .ref a_good]))] H := hP
  have hD : va_D A [(h0, .inr (8, [.int v_ownSource, .int v_ownTarget, .int v_given, .ref a_gift, .int (nI ql), .ref a_queue, .int v_bitCount, .int v_bitAt, .ref a_bits, .int v_inFrame, .int v_idle, .int v_register, .int v_phase, .int v_size, .ref a_bytes, .int v_now, .ref a_hitTime, .ref a_hitLevel, .int v_got, .int v_ear, .int v_run, .int v_locked, .int v_reads, .int v_quiet, .int v_ones, .int v_last, .int v_heard, .int v_ending, .int v_started, .int v_faulty, .int v_nibbles, .ref a_nibble, .ref a_counts, .int v_ended, .int v_any, .int v_goodSource, .int v_goodLength, .ref a_good]))] := hD
  refine lv_to (y := bI true) (by rw [hb0]) ?_
  refine lv_if_ne (tgt := 9) hx hb dX8_send_4 (by decide) (fun c4 => ?_) (fun c4 => ?_)
  · skip
    have k4 : true = true := bI_t c4
    refine lv_aload_n hx hb dX8_send_9 rfl (lv_at hl 0 rfl) ?_
    refine va_get (D := D) (ci := 8) (v := .int (nI ql)) (C := RX8) (T := TX8) (N := 38) hx hb hts inX8_send_X8 hown hK hP 0 rfl rfl 4 (by decide) (hts (.fieldLink RX8 54 "ScrambledLineModel" "frames" "I") (by decide +kernel)) (fun _ h9 => h9) rfl dX8_send_10 ?_
    refine lv_iconst (v := nI 4) hx hb dX8_send_13 rfl ?_
    refine lv_icmp_ne (tgt := 20) hx hb dX8_send_14 (by decide) (fun c14 => ?_) (fun c14 => ?_)
    · skip
      have k14 : ¬ ql = 4 := fun zq => c14 ((nI_eq (a := ql) (b := 4) (by omega) (by omega)).mpr zq)
      exact False.elim (by omega)
    · skip
      have k14 : ql = 4 := (nI_eq (a := ql) (b := 4) (by omega) (by omega)).mp c14
      refine lv_bipush (v := (-2)) hx hb dX8_send_17 rfl ?_
      refine W_q hQ ?_
      exact rt_i () hx hb hr hlocks dX8_send_19 hS hP hD rfl
  · skip
    have k4 : true = false := bI_f c4
    exact absurd k4 (by decide)

set_option maxHeartbeats 4000000 in
set_option maxRecDepth 100000 in
theorem c_X8_send (l : Launch) (D : va_G) (cI cG : ClassId) (tt : Nat × Nat × Nat) (sz : Nat) (h0 : Nat) (a_gift : Nat) (a_queue : Nat) (a_bits : Nat) (a_bytes : Nat) (a_hitTime : Nat) (a_hitLevel : Nat) (a_nibble : Nat) (a_counts : Nat) (a_good : Nat) (v_ownSource : Int32) (v_ownTarget : Int32) (gl : Nat) (ql : Nat) (v_bitCount : Int32) (v_bitAt : Int32) (v_inFrame : Int32) (v_idle : Int32) (v_register : Int32) (v_phase : Int32) (v_size : Int32) (v_now : Int32) (v_got : Int32) (v_ear : Int32) (v_run : Int32) (v_locked : Int32) (v_reads : Int32) (v_quiet : Int32) (v_ones : Int32) (v_last : Int32) (v_heard : Int32) (v_ending : Int32) (v_started : Int32) (v_faulty : Int32) (v_nibbles : Int32) (v_ended : Int32) (v_any : Int32) (v_goodSource : Int32) (v_goodLength : Int32) (gf : Nat → Int32) (qf : Nat → Int32) (x : Nat) (gd : Nat → Nat) (q : Nat → Nat) (hb0 : isB (nI x) = true) (hql : ql < 4) (hg : gl ≤ 24) (hgd : ∀ j, j < gl → gf j = nI (gd j) ∧ gd j < 256) (hqf : QM qf ql q) : Met l yX8_send wsX8_send ({ frames := 1, cells := 0, slots := 0, locals := 20 }) (PC D cI cG tt [.ref h0, .int (nI x)] [(h0, .inr (8, [.int v_ownSource, .int v_ownTarget, .int (nI gl), .ref a_gift, .int (nI ql), .ref a_queue, .int v_bitCount, .int v_bitAt, .ref a_bits, .int v_inFrame, .int v_idle, .int v_register, .int v_phase, .int v_size, .ref a_bytes, .int v_now, .ref a_hitTime, .ref a_hitLevel, .int v_got, .int v_ear, .int v_run, .int v_locked, .int v_reads, .int v_quiet, .int v_ones, .int v_last, .int v_heard, .int v_ending, .int v_started, .int v_faulty, .int v_nibbles, .ref a_nibble, .ref a_counts, .int v_ended, .int v_any, .int v_goodSource, .int v_goodLength, .ref a_good])), (a_gift, .inl (cI, 24, .inl gf)), (a_queue, .inl (cI, 128, .inl qf))] sz) (QI (fun (r : Int32) (u : (Nat → Int32)) => match u with | qf2 => r = nI (ql + 1) ∧ QM qf2 (ql + 1) (qput q ql x gl gd)) (fun (u : (Nat → Int32)) => match u with | qf2 => [(h0, .inr (8, [.int v_ownSource, .int v_ownTarget, .int (nI 0), .ref a_gift, .int (nI (ql + 1)), .ref a_queue, .int v_bitCount, .int v_bitAt, .ref a_bits, .int v_inFrame, .int v_idle, .int v_register, .int v_phase, .int v_size, .ref a_bytes, .int v_now, .ref a_hitTime, .ref a_hitLevel, .int v_got, .int v_ear, .int v_run, .int v_locked, .int v_reads, .int v_quiet, .int v_ones, .int v_last, .int v_heard, .int v_ending, .int v_started, .int v_faulty, .int v_nibbles, .ref a_nibble, .ref a_counts, .int v_ended, .int v_any, .int v_goodSource, .int v_goodLength, .ref a_good])), (a_gift, .inl (cI, 24, .inl gf)), (a_queue, .inl (cI, 128, .inl qf2))]) D (va_A [(h0, .inr (8, [.int v_ownSource, .int v_ownTarget, .int (nI gl), .ref a_gift, .int (nI ql), .ref a_queue, .int v_bitCount, .int v_bitAt, .ref a_bits, .int v_inFrame, .int v_idle, .int v_register, .int v_phase, .int v_size, .ref a_bytes, .int v_now, .ref a_hitTime, .ref a_hitLevel, .int v_got, .int v_ear, .int v_run, .int v_locked, .int v_reads, .int v_quiet, .int v_ones, .int v_last, .int v_heard, .int v_ending, .int v_started, .int v_faulty, .int v_nibbles, .ref a_nibble, .ref a_counts, .int v_ended, .int v_any, .int v_goodSource, .int v_goodLength, .ref a_good])), (a_gift, .inl (cI, 24, .inl gf)), (a_queue, .inl (cI, 128, .inl qf))] sz)) 0 0 (va_A [(h0, .inr (8, [.int v_ownSource, .int v_ownTarget, .int (nI gl), .ref a_gift, .int (nI ql), .ref a_queue, .int v_bitCount, .int v_bitAt, .ref a_bits, .int v_inFrame, .int v_idle, .int v_register, .int v_phase, .int v_size, .ref a_bytes, .int v_now, .ref a_hitTime, .ref a_hitLevel, .int v_got, .int v_ear, .int v_run, .int v_locked, .int v_reads, .int v_quiet, .int v_ones, .int v_last, .int v_heard, .int v_ending, .int v_started, .int v_faulty, .int v_nibbles, .ref a_nibble, .ref a_counts, .int v_ended, .int v_any, .int v_goodSource, .int v_goodLength, .ref a_good])), (a_gift, .inl (cI, 24, .inl gf)), (a_queue, .inl (cI, 128, .inl qf))] sz) := by
  refine ct_of (y := yX8_send) (cc := cX8_send) (maxL := 3) (ret := (some .int)) (Qf := QI (fun (r : Int32) (u : (Nat → Int32)) => match u with | qf2 => r = nI (ql + 1) ∧ QM qf2 (ql + 1) (qput q ql x gl gd)) (fun (u : (Nat → Int32)) => match u with | qf2 => [(h0, .inr (8, [.int v_ownSource, .int v_ownTarget, .int (nI 0), .ref a_gift, .int (nI (ql + 1)), .ref a_queue, .int v_bitCount, .int v_bitAt, .ref a_bits, .int v_inFrame, .int v_idle, .int v_register, .int v_phase, .int v_size, .ref a_bytes, .int v_now, .ref a_hitTime, .ref a_hitLevel, .int v_got, .int v_ear, .int v_run, .int v_locked, .int v_reads, .int v_quiet, .int v_ones, .int v_last, .int v_heard, .int v_ending, .int v_started, .int v_faulty, .int v_nibbles, .ref a_nibble, .ref a_counts, .int v_ended, .int v_any, .int v_goodSource, .int v_goodLength, .ref a_good])), (a_gift, .inl (cI, 24, .inl gf)), (a_queue, .inl (cI, 128, .inl qf2))]) D) (by decide) rfl ?_
  intro p e s m args below meth c A Q R H locs hR hQ hx hb hml hr hts hown hlocks hin hP hD hE hT hA hS
  have hK := hE.1
  have hl := lv_entry ([.ref h0, .int (nI x)]) (n := 3) (Nat.le_of_ble_eq_true rfl)
  rw [lg_entry_eq]
  generalize (lg_sl ([.ref h0, .int (nI x)]) ++ List.replicate (3 - (lg_sl ([.ref h0, .int (nI x)])).length) Slot.unset).toArray = ls at hl ⊢
  have hl : lv_has ls 3 [(0, .ref h0), (1, .int (nI x))] := hl
  refine lv_iload_n hx hb dX8_send_0 rfl (lv_at hl 1 rfl) ?_
  refine ca_i (wr := [(h0, .inr (8, [.int v_ownSource, .int v_ownTarget, .int (nI gl), .ref a_gift, .int (nI ql), .ref a_queue, .int v_bitCount, .int v_bitAt, .ref a_bits, .int v_inFrame, .int v_idle, .int v_register, .int v_phase, .int v_size, .ref a_bytes, .int v_now, .ref a_hitTime, .ref a_hitLevel, .int v_got, .int v_ear, .int v_run, .int v_locked, .int v_reads, .int v_quiet, .int v_ones, .int v_last, .int v_heard, .int v_ending, .int v_started, .int v_faulty, .int v_nibbles, .ref a_nibble, .ref a_counts, .int v_ended, .int v_any, .int v_goodSource, .int v_goodLength, .ref a_good])), (a_gift, .inl (cI, 24, .inl gf)), (a_queue, .inl (cI, 128, .inl qf))]) (ru_S (As := [.int (nI x)]) (rest := []) ⟨hx, hb, hml, hown, hts⟩ (c_X8_isByte l D cI cG tt H.size (nI x)) (cwS 1 hts gX8_send_X8_isByte rfl rfl rfl (by decide +kernel) ⟨by rw [hR]; exact Nat.le_of_ble_eq_true rfl, by rw [hR]; exact Nat.le_of_ble_eq_true rfl⟩) hP hD hE hT hS hA [] rfl (by decide) rfl hl.1 rfl (Nat.le_of_ble_eq_true rfl) dX8_send_1 ⟨by rw [hR]; exact Nat.le_of_ble_eq_true rfl, by rw [hR]; exact Nat.le_of_ble_eq_true rfl⟩) hP hD hS hA [] [0, 1, 2] rfl rfl (by decide) (by decide) (fun r1 u H locs hw hP hD hS => ?_)
  obtain rfl := hw
  have hP : va_P D vwCl [(h0, .inr (8, [.int v_ownSource, .int v_ownTarget, .int (nI gl), .ref a_gift, .int (nI ql), .ref a_queue, .int v_bitCount, .int v_bitAt, .ref a_bits, .int v_inFrame, .int v_idle, .int v_register, .int v_phase, .int v_size, .ref a_bytes, .int v_now, .ref a_hitTime, .ref a_hitLevel, .int v_got, .int v_ear, .int v_run, .int v_locked, .int v_reads, .int v_quiet, .int v_ones, .int v_last, .int v_heard, .int v_ending, .int v_started, .int v_faulty, .int v_nibbles, .ref a_nibble, .ref a_counts, .int v_ended, .int v_any, .int v_goodSource, .int v_goodLength, .ref a_good])), (a_gift, .inl (cI, 24, .inl gf)), (a_queue, .inl (cI, 128, .inl qf))] H := hP
  have hD : va_D A [(h0, .inr (8, [.int v_ownSource, .int v_ownTarget, .int (nI gl), .ref a_gift, .int (nI ql), .ref a_queue, .int v_bitCount, .int v_bitAt, .ref a_bits, .int v_inFrame, .int v_idle, .int v_register, .int v_phase, .int v_size, .ref a_bytes, .int v_now, .ref a_hitTime, .ref a_hitLevel, .int v_got, .int v_ear, .int v_run, .int v_locked, .int v_reads, .int v_quiet, .int v_ones, .int v_last, .int v_heard, .int v_ending, .int v_started, .int v_faulty, .int v_nibbles, .ref a_nibble, .ref a_counts, .int v_ended, .int v_any, .int v_goodSource, .int v_goodLength, .ref a_good])), (a_gift, .inl (cI, 24, .inl gf)), (a_queue, .inl (cI, 128, .inl qf))] := hD
  refine lv_to (y := bI true) (by rw [hb0]) ?_
  refine lv_if_ne (tgt := 9) hx hb dX8_send_4 (by decide) (fun c4 => ?_) (fun c4 => ?_)
  · skip
    have k4 : true = true := bI_t c4
    refine lv_aload_n hx hb dX8_send_9 rfl (lv_at hl 0 rfl) ?_
    refine va_get (D := D) (ci := 8) (v := .int (nI ql)) (C := RX8) (T := TX8) (N := 38) hx hb hts inX8_send_X8 hown hK hP 0 rfl rfl 4 (by decide) (hts (.fieldLink RX8 54 "ScrambledLineModel" "frames" "I") (by decide +kernel)) (fun _ h9 => h9) rfl dX8_send_10 ?_
    refine lv_iconst (v := nI 4) hx hb dX8_send_13 rfl ?_
    refine lv_icmp_ne (tgt := 20) hx hb dX8_send_14 (by decide) (fun c14 => ?_) (fun c14 => ?_)
    · skip
      have k14 : ¬ ql = 4 := fun zq => c14 ((nI_eq (a := ql) (b := 4) (by omega) (by omega)).mpr zq)
      refine lv_aload_n hx hb dX8_send_20 rfl (lv_at hl 0 rfl) ?_
      refine va_get (D := D) (ci := 8) (v := .ref a_queue) (C := RX8) (T := TX8) (N := 38) hx hb hts inX8_send_X8 hown hK hP 0 rfl rfl 5 (by decide) (hts (.fieldLink RX8 13 "ScrambledLineModel" "queue" "[I") (by decide +kernel)) (fun _ h9 => h9) rfl dX8_send_21 ?_
      refine lv_bipush (v := nI 32) hx hb dX8_send_24 rfl ?_
      refine lv_aload_n hx hb dX8_send_26 rfl (lv_at hl 0 rfl) ?_
      refine va_get (D := D) (ci := 8) (v := .int (nI ql)) (C := RX8) (T := TX8) (N := 38) hx hb hts inX8_send_X8 hown hK hP 0 rfl rfl 4 (by decide) (hts (.fieldLink RX8 54 "ScrambledLineModel" "frames" "I") (by decide +kernel)) (fun _ h9 => h9) rfl dX8_send_27 ?_
      refine lv_imul hx hb dX8_send_30 ?_
      refine lv_to (y := nI (32 * ql)) (pk_mul 32 ql) ?_
      refine lv_iload_n hx hb dX8_send_31 rfl (lv_at hl 1 rfl) ?_
      refine gs_i hx hb hK hP hD hS 2 rfl (i := (32 * ql)) (x := nI x) (by omega) (by first | decide | omega) dX8_send_32 (fun H locs hP hD hS => ?_)
      have hP : va_P D vwCl [(h0, .inr (8, [.int v_ownSource, .int v_ownTarget, .int (nI gl), .ref a_gift, .int (nI ql), .ref a_queue, .int v_bitCount, .int v_bitAt, .ref a_bits, .int v_inFrame, .int v_idle, .int v_register, .int v_phase, .int v_size, .ref a_bytes, .int v_now, .ref a_hitTime, .ref a_hitLevel, .int v_got, .int v_ear, .int v_run, .int v_locked, .int v_reads, .int v_quiet, .int v_ones, .int v_last, .int v_heard, .int v_ending, .int v_started, .int v_faulty, .int v_nibbles, .ref a_nibble, .ref a_counts, .int v_ended, .int v_any, .int v_goodSource, .int v_goodLength, .ref a_good])), (a_gift, .inl (cI, 24, .inl gf)), (a_queue, .inl (cI, 128, .inl (upd qf (32 * ql) (nI x))))] H := hP
      have hD : va_D A [(h0, .inr (8, [.int v_ownSource, .int v_ownTarget, .int (nI gl), .ref a_gift, .int (nI ql), .ref a_queue, .int v_bitCount, .int v_bitAt, .ref a_bits, .int v_inFrame, .int v_idle, .int v_register, .int v_phase, .int v_size, .ref a_bytes, .int v_now, .ref a_hitTime, .ref a_hitLevel, .int v_got, .int v_ear, .int v_run, .int v_locked, .int v_reads, .int v_quiet, .int v_ones, .int v_last, .int v_heard, .int v_ending, .int v_started, .int v_faulty, .int v_nibbles, .ref a_nibble, .ref a_counts, .int v_ended, .int v_any, .int v_goodSource, .int v_goodLength, .ref a_good])), (a_gift, .inl (cI, 24, .inl gf)), (a_queue, .inl (cI, 128, .inl (upd qf (32 * ql) (nI x))))] := hD
      refine lv_aload_n hx hb dX8_send_33 rfl (lv_at hl 0 rfl) ?_
      refine va_get (D := D) (ci := 8) (v := .ref a_queue) (C := RX8) (T := TX8) (N := 38) hx hb hts inX8_send_X8 hown hK hP 0 rfl rfl 5 (by decide) (hts (.fieldLink RX8 13 "ScrambledLineModel" "queue" "[I") (by decide +kernel)) (fun _ h9 => h9) rfl dX8_send_34 ?_
      refine lv_bipush (v := nI 32) hx hb dX8_send_37 rfl ?_
      refine lv_aload_n hx hb dX8_send_39 rfl (lv_at hl 0 rfl) ?_
      refine va_get (D := D) (ci := 8) (v := .int (nI ql)) (C := RX8) (T := TX8) (N := 38) hx hb hts inX8_send_X8 hown hK hP 0 rfl rfl 4 (by decide) (hts (.fieldLink RX8 54 "ScrambledLineModel" "frames" "I") (by decide +kernel)) (fun _ h9 => h9) rfl dX8_send_40 ?_
      refine lv_imul hx hb dX8_send_43 ?_
      refine lv_to (y := nI (32 * ql)) (pk_mul 32 ql) ?_
      refine lv_iconst (v := nI 1) hx hb dX8_send_44 rfl ?_
      refine lv_iadd hx hb dX8_send_45 ?_
      refine lv_to (y := nI ((32 * ql) + 1)) (nI_add (32 * ql) 1) ?_
      refine lv_aload_n hx hb dX8_send_46 rfl (lv_at hl 0 rfl) ?_
      refine va_get (D := D) (ci := 8) (v := .int (nI gl)) (C := RX8) (T := TX8) (N := 38) hx hb hts inX8_send_X8 hown hK hP 0 rfl rfl 2 (by decide) (hts (.fieldLink RX8 51 "ScrambledLineModel" "given" "I") (by decide +kernel)) (fun _ h9 => h9) rfl dX8_send_47 ?_
      refine gs_i hx hb hK hP hD hS 2 rfl (i := ((32 * ql) + 1)) (x := nI gl) (by omega) (by first | decide | omega) dX8_send_50 (fun H locs hP hD hS => ?_)
      have hP : va_P D vwCl [(h0, .inr (8, [.int v_ownSource, .int v_ownTarget, .int (nI gl), .ref a_gift, .int (nI ql), .ref a_queue, .int v_bitCount, .int v_bitAt, .ref a_bits, .int v_inFrame, .int v_idle, .int v_register, .int v_phase, .int v_size, .ref a_bytes, .int v_now, .ref a_hitTime, .ref a_hitLevel, .int v_got, .int v_ear, .int v_run, .int v_locked, .int v_reads, .int v_quiet, .int v_ones, .int v_last, .int v_heard, .int v_ending, .int v_started, .int v_faulty, .int v_nibbles, .ref a_nibble, .ref a_counts, .int v_ended, .int v_any, .int v_goodSource, .int v_goodLength, .ref a_good])), (a_gift, .inl (cI, 24, .inl gf)), (a_queue, .inl (cI, 128, .inl (upd (upd qf (32 * ql) (nI x)) ((32 * ql) + 1) (nI gl))))] H := hP
      have hD : va_D A [(h0, .inr (8, [.int v_ownSource, .int v_ownTarget, .int (nI gl), .ref a_gift, .int (nI ql), .ref a_queue, .int v_bitCount, .int v_bitAt, .ref a_bits, .int v_inFrame, .int v_idle, .int v_register, .int v_phase, .int v_size, .ref a_bytes, .int v_now, .ref a_hitTime, .ref a_hitLevel, .int v_got, .int v_ear, .int v_run, .int v_locked, .int v_reads, .int v_quiet, .int v_ones, .int v_last, .int v_heard, .int v_ending, .int v_started, .int v_faulty, .int v_nibbles, .ref a_nibble, .ref a_counts, .int v_ended, .int v_any, .int v_goodSource, .int v_goodLength, .ref a_good])), (a_gift, .inl (cI, 24, .inl gf)), (a_queue, .inl (cI, 128, .inl (upd (upd qf (32 * ql) (nI x)) ((32 * ql) + 1) (nI gl))))] := hD
      refine lv_iconst (v := nI 0) hx hb dX8_send_51 rfl ?_
      refine lv_istore_n (lv' := [(2, .int (nI 0)), (0, .ref h0), (1, .int (nI x))]) hx hb dX8_send_52 rfl hl (by decide) rfl (fun ls hl => ?_)
      have L53 : ∀ (fu53 : Nat), ∀ (i : Nat) (qq : Nat → Int32), (i ≤ 24) → (∀ k, k < 32 * ql + 2 + i → k % 32 < 26 → qq k = nI (qput q ql x gl gd k)) → 24 - i < fu53 → ∀ (H : Heap) (locs : List Loc), va_P D vwCl [(h0, .inr (8, [.int v_ownSource, .int v_ownTarget, .int (nI gl), .ref a_gift, .int (nI ql), .ref a_queue, .int v_bitCount, .int v_bitAt, .ref a_bits, .int v_inFrame, .int v_idle, .int v_register, .int v_phase, .int v_size, .ref a_bytes, .int v_now, .ref a_hitTime, .ref a_hitLevel, .int v_got, .int v_ear, .int v_run, .int v_locked, .int v_reads, .int v_quiet, .int v_ones, .int v_last, .int v_heard, .int v_ending, .int v_started, .int v_faulty, .int v_nibbles, .ref a_nibble, .ref a_counts, .int v_ended, .int v_any, .int v_goodSource, .int v_goodLength, .ref a_good])), (a_gift, .inl (cI, 24, .inl gf)), (a_queue, .inl (cI, 128, .inl qq))] H → va_D A [(h0, .inr (8, [.int v_ownSource, .int v_ownTarget, .int (nI gl), .ref a_gift, .int (nI ql), .ref a_queue, .int v_bitCount, .int v_bitAt, .ref a_bits, .int v_inFrame, .int v_idle, .int v_register, .int v_phase, .int v_size, .ref a_bytes, .int v_now, .ref a_hitTime, .ref a_hitLevel, .int v_got, .int v_ear, .int v_run, .int v_locked, .int v_reads, .int v_quiet, .int v_ones, .int v_last, .int v_heard, .int v_ending, .int v_started, .int v_faulty, .int v_nibbles, .ref a_nibble, .ref a_counts, .int v_ended, .int v_any, .int v_goodSource, .int v_goodLength, .ref a_good])), (a_gift, .inl (cI, 24, .inl gf)), (a_queue, .inl (cI, 128, .inl qq))] → va_S A s.heap H locs → ∀ ls : Array Slot, lv_has ls 3 [(2, .int (nI i)), (0, .ref h0), (1, .int (nI x))] → W p l e R s m args below meth c H locs 0 0 Q (F0 m 53 ls []) := by
        intro fu53
        induction fu53 with
        | zero => intro i qq hi hqq hm53; exact absurd hm53 (Nat.not_lt_zero _)
        | succ fu53 ih53 =>
          intro i qq hi hqq hm53 H locs hP hD hS ls hl
          refine lv_iload_n hx hb dX8_send_53 rfl (lv_at hl 0 rfl) ?_
          refine lv_bipush (v := nI 24) hx hb dX8_send_54 rfl ?_
          refine lv_icmp_ge (tgt := 99) hx hb dX8_send_56 (by decide) (fun c56 => ?_) (fun c56 => ?_)
          · skip
            have k56 : 24 ≤ i := (nI_leI (a := 24) (b := i) (by omega) (by omega)).mp c56
            refine lv_aload_n hx hb dX8_send_99 rfl (lv_at hl 1 rfl) ?_
            refine lv_dup hx hb dX8_send_100 rfl ?_
            refine va_get (D := D) (ci := 8) (v := .int (nI ql)) (C := RX8) (T := TX8) (N := 38) hx hb hts inX8_send_X8 hown hK hP 0 rfl rfl 4 (by decide) (hts (.fieldLink RX8 54 "ScrambledLineModel" "frames" "I") (by decide +kernel)) (fun _ h9 => h9) rfl dX8_send_101 ?_
            refine lv_iconst (v := nI 1) hx hb dX8_send_104 rfl ?_
            refine lv_iadd hx hb dX8_send_105 ?_
            refine lv_to (y := nI (ql + 1)) (nI_add ql 1) ?_
            refine va_put (D := D) (ci := 8) (v := .int (nI (ql + 1))) (ty := .int) (C := RX8) (T := TX8) (N := 38) hx hb hts inX8_send_X8 tyX8 tyX8_ok nmX8 hown hK hP hD hS 0 rfl rfl 4 (by decide) (hts (.fieldLink RX8 54 "ScrambledLineModel" "frames" "I") (by decide +kernel)) (fun _ h9 => h9) rfl (by decide +kernel) rfl rfl (Nat.le_of_ble_eq_true rfl) dX8_send_106 (fun H locs hP hD hS => ?_)
            have hP : va_P D vwCl [(h0, .inr (8, [.int v_ownSource, .int v_ownTarget, .int (nI gl), .ref a_gift, .int (nI (ql + 1)), .ref a_queue, .int v_bitCount, .int v_bitAt, .ref a_bits, .int v_inFrame, .int v_idle, .int v_register, .int v_phase, .int v_size, .ref a_bytes, .int v_now, .ref a_hitTime, .ref a_hitLevel, .int v_got, .int v_ear, .int v_run, .int v_locked, .int v_reads, .int v_quiet, .int v_ones, .int v_last, .int v_heard, .int v_ending, .int v_started, .int v_faulty, .int v_nibbles, .ref a_nibble, .ref a_counts, .int v_ended, .int v_any, .int v_goodSource, .int v_goodLength, .ref a_good])), (a_gift, .inl (cI, 24, .inl gf)), (a_queue, .inl (cI, 128, .inl qq))] H := hP
            have hD : va_D A [(h0, .inr (8, [.int v_ownSource, .int v_ownTarget, .int (nI gl), .ref a_gift, .int (nI (ql + 1)), .ref a_queue, .int v_bitCount, .int v_bitAt, .ref a_bits, .int v_inFrame, .int v_idle, .int v_register, .int v_phase, .int v_size, .ref a_bytes, .int v_now, .ref a_hitTime, .ref a_hitLevel, .int v_got, .int v_ear, .int v_run, .int v_locked, .int v_reads, .int v_quiet, .int v_ones, .int v_last, .int v_heard, .int v_ending, .int v_started, .int v_faulty, .int v_nibbles, .ref a_nibble, .ref a_counts, .int v_ended, .int v_any, .int v_goodSource, .int v_goodLength, .ref a_good])), (a_gift, .inl (cI, 24, .inl gf)), (a_queue, .inl (cI, 128, .inl qq))] := hD
            refine lv_aload_n hx hb dX8_send_109 rfl (lv_at hl 1 rfl) ?_
            refine lv_iconst (v := nI 0) hx hb dX8_send_110 rfl ?_
            refine va_put (D := D) (ci := 8) (v := .int (nI 0)) (ty := .int) (C := RX8) (T := TX8) (N := 38) hx hb hts inX8_send_X8 tyX8 tyX8_ok nmX8 hown hK hP hD hS 0 rfl rfl 2 (by decide) (hts (.fieldLink RX8 51 "ScrambledLineModel" "given" "I") (by decide +kernel)) (fun _ h9 => h9) rfl (by decide +kernel) rfl rfl (Nat.le_of_ble_eq_true rfl) dX8_send_111 (fun H locs hP hD hS => ?_)
            have hP : va_P D vwCl [(h0, .inr (8, [.int v_ownSource, .int v_ownTarget, .int (nI 0), .ref a_gift, .int (nI (ql + 1)), .ref a_queue, .int v_bitCount, .int v_bitAt, .ref a_bits, .int v_inFrame, .int v_idle, .int v_register, .int v_phase, .int v_size, .ref a_bytes, .int v_now, .ref a_hitTime, .ref a_hitLevel, .int v_got, .int v_ear, .int v_run, .int v_locked, .int v_reads, .int v_quiet, .int v_ones, .int v_last, .int v_heard, .int v_ending, .int v_started, .int v_faulty, .int v_nibbles, .ref a_nibble, .ref a_counts, .int v_ended, .int v_any, .int v_goodSource, .int v_goodLength, .ref a_good])), (a_gift, .inl (cI, 24, .inl gf)), (a_queue, .inl (cI, 128, .inl qq))] H := hP
            have hD : va_D A [(h0, .inr (8, [.int v_ownSource, .int v_ownTarget, .int (nI 0), .ref a_gift, .int (nI (ql + 1)), .ref a_queue, .int v_bitCount, .int v_bitAt, .ref a_bits, .int v_inFrame, .int v_idle, .int v_register, .int v_phase, .int v_size, .ref a_bytes, .int v_now, .ref a_hitTime, .ref a_hitLevel, .int v_got, .int v_ear, .int v_run, .int v_locked, .int v_reads, .int v_quiet, .int v_ones, .int v_last, .int v_heard, .int v_ending, .int v_started, .int v_faulty, .int v_nibbles, .ref a_nibble, .ref a_counts, .int v_ended, .int v_any, .int v_goodSource, .int v_goodLength, .ref a_good])), (a_gift, .inl (cI, 24, .inl gf)), (a_queue, .inl (cI, 128, .inl qq))] := hD
            refine lv_aload_n hx hb dX8_send_114 rfl (lv_at hl 1 rfl) ?_
            refine va_get (D := D) (ci := 8) (v := .int (nI (ql + 1))) (C := RX8) (T := TX8) (N := 38) hx hb hts inX8_send_X8 hown hK hP 0 rfl rfl 4 (by decide) (hts (.fieldLink RX8 54 "ScrambledLineModel" "frames" "I") (by decide +kernel)) (fun _ h9 => h9) rfl dX8_send_115 ?_
            refine W_q hQ ?_
            exact rt_i qq hx hb hr hlocks dX8_send_118 hS hP hD (⟨rfl, qp_end (show i = 24 by omega) hqq⟩)
          · skip
            have k56 : ¬ 24 ≤ i := fun zq => c56 ((nI_leI (a := 24) (b := i) (by omega) (by omega)).mpr zq)
            refine lv_aload_n hx hb dX8_send_59 rfl (lv_at hl 1 rfl) ?_
            refine va_get (D := D) (ci := 8) (v := .ref a_queue) (C := RX8) (T := TX8) (N := 38) hx hb hts inX8_send_X8 hown hK hP 0 rfl rfl 5 (by decide) (hts (.fieldLink RX8 13 "ScrambledLineModel" "queue" "[I") (by decide +kernel)) (fun _ h9 => h9) rfl dX8_send_60 ?_
            refine lv_bipush (v := nI 32) hx hb dX8_send_63 rfl ?_
            refine lv_aload_n hx hb dX8_send_65 rfl (lv_at hl 1 rfl) ?_
            refine va_get (D := D) (ci := 8) (v := .int (nI ql)) (C := RX8) (T := TX8) (N := 38) hx hb hts inX8_send_X8 hown hK hP 0 rfl rfl 4 (by decide) (hts (.fieldLink RX8 54 "ScrambledLineModel" "frames" "I") (by decide +kernel)) (fun _ h9 => h9) rfl dX8_send_66 ?_
            refine lv_imul hx hb dX8_send_69 ?_
            refine lv_to (y := nI (32 * ql)) (pk_mul 32 ql) ?_
            refine lv_iconst (v := nI 2) hx hb dX8_send_70 rfl ?_
            refine lv_iadd hx hb dX8_send_71 ?_
            refine lv_to (y := nI ((32 * ql) + 2)) (nI_add (32 * ql) 2) ?_
            refine lv_iload_n hx hb dX8_send_72 rfl (lv_at hl 0 rfl) ?_
            refine lv_iadd hx hb dX8_send_73 ?_
            refine lv_to (y := nI (((32 * ql) + 2) + i)) (nI_add ((32 * ql) + 2) i) ?_
            refine lv_iload_n hx hb dX8_send_74 rfl (lv_at hl 0 rfl) ?_
            refine lv_aload_n hx hb dX8_send_75 rfl (lv_at hl 1 rfl) ?_
            refine va_get (D := D) (ci := 8) (v := .int (nI gl)) (C := RX8) (T := TX8) (N := 38) hx hb hts inX8_send_X8 hown hK hP 0 rfl rfl 2 (by decide) (hts (.fieldLink RX8 51 "ScrambledLineModel" "given" "I") (by decide +kernel)) (fun _ h9 => h9) rfl dX8_send_76 ?_
            refine lv_icmp_ge (tgt := 91) hx hb dX8_send_79 (by decide) (fun c79 => ?_) (fun c79 => ?_)
            · skip
              have k79 : gl ≤ i := (nI_leI (a := gl) (b := i) (by omega) (by omega)).mp c79
              refine lv_iconst (v := nI 0) hx hb dX8_send_91 rfl ?_
              refine gs_i hx hb hK hP hD hS 2 rfl (i := (((32 * ql) + 2) + i)) (x := nI 0) (by omega) (by first | decide | omega) dX8_send_92 (fun H locs hP hD hS => ?_)
              have hP : va_P D vwCl [(h0, .inr (8, [.int v_ownSource, .int v_ownTarget, .int (nI gl), .ref a_gift, .int (nI ql), .ref a_queue, .int v_bitCount, .int v_bitAt, .ref a_bits, .int v_inFrame, .int v_idle, .int v_register, .int v_phase, .int v_size, .ref a_bytes, .int v_now, .ref a_hitTime, .ref a_hitLevel, .int v_got, .int v_ear, .int v_run, .int v_locked, .int v_reads, .int v_quiet, .int v_ones, .int v_last, .int v_heard, .int v_ending, .int v_started, .int v_faulty, .int v_nibbles, .ref a_nibble, .ref a_counts, .int v_ended, .int v_any, .int v_goodSource, .int v_goodLength, .ref a_good])), (a_gift, .inl (cI, 24, .inl gf)), (a_queue, .inl (cI, 128, .inl (upd qq (((32 * ql) + 2) + i) (nI 0))))] H := hP
              have hD : va_D A [(h0, .inr (8, [.int v_ownSource, .int v_ownTarget, .int (nI gl), .ref a_gift, .int (nI ql), .ref a_queue, .int v_bitCount, .int v_bitAt, .ref a_bits, .int v_inFrame, .int v_idle, .int v_register, .int v_phase, .int v_size, .ref a_bytes, .int v_now, .ref a_hitTime, .ref a_hitLevel, .int v_got, .int v_ear, .int v_run, .int v_locked, .int v_reads, .int v_quiet, .int v_ones, .int v_last, .int v_heard, .int v_ending, .int v_started, .int v_faulty, .int v_nibbles, .ref a_nibble, .ref a_counts, .int v_ended, .int v_any, .int v_goodSource, .int v_goodLength, .ref a_good])), (a_gift, .inl (cI, 24, .inl gf)), (a_queue, .inl (cI, 128, .inl (upd qq (((32 * ql) + 2) + i) (nI 0))))] := hD
              refine lv_iinc (v := nI (i + 1)) (lv' := [(2, .int (nI (i + 1))), (0, .ref h0), (1, .int (nI x))]) hx hb dX8_send_93 hl (k := 0) rfl (nI_add i 1) (by decide) rfl (fun ls hl => ?_)
              refine lv_goto (tgt := 53) hx hb dX8_send_96 (by decide) ?_
              exact ih53 (i + 1) (upd qq (((32 * ql) + 2) + i) (nI 0)) (by omega) (qp_2 (by omega) hqq) (by omega) _ _ hP hD hS _ (lv_sub hl [0, 1, 2] rfl)
            · skip
              have k79 : ¬ gl ≤ i := fun zq => c79 ((nI_leI (a := gl) (b := i) (by omega) (by omega)).mpr zq)
              refine lv_aload_n hx hb dX8_send_82 rfl (lv_at hl 1 rfl) ?_
              refine va_get (D := D) (ci := 8) (v := .ref a_gift) (C := RX8) (T := TX8) (N := 38) hx hb hts inX8_send_X8 hown hK hP 0 rfl rfl 3 (by decide) (hts (.fieldLink RX8 7 "ScrambledLineModel" "gift" "[I") (by decide +kernel)) (fun _ h9 => h9) rfl dX8_send_83 ?_
              refine lv_iload_n hx hb dX8_send_86 rfl (lv_at hl 0 rfl) ?_
              refine gl_i hx hb hK hP 1 rfl (i := i) (by omega) (by first | decide | omega) dX8_send_87 ?_
              refine lv_to (y := nI (gd i)) ((hgd i (by omega)).1) ?_
              refine lv_goto (tgt := 92) hx hb dX8_send_88 (by decide) ?_
              refine gs_i hx hb hK hP hD hS 2 rfl (i := (((32 * ql) + 2) + i)) (x := nI (gd i)) (by omega) (by first | decide | omega) dX8_send_92 (fun H locs hP hD hS => ?_)
              have hP : va_P D vwCl [(h0, .inr (8, [.int v_ownSource, .int v_ownTarget, .int (nI gl), .ref a_gift, .int (nI ql), .ref a_queue, .int v_bitCount, .int v_bitAt, .ref a_bits, .int v_inFrame, .int v_idle, .int v_register, .int v_phase, .int v_size, .ref a_bytes, .int v_now, .ref a_hitTime, .ref a_hitLevel, .int v_got, .int v_ear, .int v_run, .int v_locked, .int v_reads, .int v_quiet, .int v_ones, .int v_last, .int v_heard, .int v_ending, .int v_started, .int v_faulty, .int v_nibbles, .ref a_nibble, .ref a_counts, .int v_ended, .int v_any, .int v_goodSource, .int v_goodLength, .ref a_good])), (a_gift, .inl (cI, 24, .inl gf)), (a_queue, .inl (cI, 128, .inl (upd qq (((32 * ql) + 2) + i) (nI (gd i)))))] H := hP
              have hD : va_D A [(h0, .inr (8, [.int v_ownSource, .int v_ownTarget, .int (nI gl), .ref a_gift, .int (nI ql), .ref a_queue, .int v_bitCount, .int v_bitAt, .ref a_bits, .int v_inFrame, .int v_idle, .int v_register, .int v_phase, .int v_size, .ref a_bytes, .int v_now, .ref a_hitTime, .ref a_hitLevel, .int v_got, .int v_ear, .int v_run, .int v_locked, .int v_reads, .int v_quiet, .int v_ones, .int v_last, .int v_heard, .int v_ending, .int v_started, .int v_faulty, .int v_nibbles, .ref a_nibble, .ref a_counts, .int v_ended, .int v_any, .int v_goodSource, .int v_goodLength, .ref a_good])), (a_gift, .inl (cI, 24, .inl gf)), (a_queue, .inl (cI, 128, .inl (upd qq (((32 * ql) + 2) + i) (nI (gd i)))))] := hD
              refine lv_iinc (v := nI (i + 1)) (lv' := [(2, .int (nI (i + 1))), (0, .ref h0), (1, .int (nI x))]) hx hb dX8_send_93 hl (k := 0) rfl (nI_add i 1) (by decide) rfl (fun ls hl => ?_)
              refine lv_goto (tgt := 53) hx hb dX8_send_96 (by decide) ?_
              exact ih53 (i + 1) (upd qq (((32 * ql) + 2) + i) (nI (gd i))) (by omega) (qp_1 (by omega) hqq) (by omega) _ _ hP hD hS _ (lv_sub hl [0, 1, 2] rfl)
      exact L53 _ 0 (upd (upd qf (32 * ql) (nI x)) ((32 * ql) + 1) (nI gl)) (Nat.zero_le _) (qp_0 hqf) (Nat.lt_succ_self _) _ _ hP hD hS _ (lv_sub hl [0, 1, 2] rfl)
    · skip
      have k14 : ql = 4 := (nI_eq (a := ql) (b := 4) (by omega) (by omega)).mp c14
      exact False.elim (by omega)
  · skip
    have k4 : true = false := bI_f c4
    exact absurd k4 (by decide)

theorem inX8_hit_X8 : ∀ w ∈ u_ws RX8 TX8 38, w ∈ wsX8_hit := by decide +kernel
set_option maxHeartbeats 4000000 in
set_option maxRecDepth 100000 in
theorem c_X8_hit (l : Launch) (D : va_G) (cI cG : ClassId) (tt : Nat × Nat × Nat) (sz : Nat) (h0 : Nat) (a_gift : Nat) (a_queue : Nat) (a_bits : Nat) (a_bytes : Nat) (a_hitTime : Nat) (a_hitLevel : Nat) (a_nibble : Nat) (a_counts : Nat) (a_good : Nat) (v_ownSource : Int32) (v_ownTarget : Int32) (v_given : Int32) (v_frames : Int32) (v_bitCount : Int32) (v_bitAt : Int32) (v_inFrame : Int32) (v_idle : Int32) (v_register : Int32) (v_phase : Int32) (v_size : Int32) (nw : Nat) (v_got : Int32) (v_ear : Int32) (v_run : Int32) (v_locked : Int32) (v_reads : Int32) (v_quiet : Int32) (v_ones : Int32) (v_last : Int32) (v_heard : Int32) (v_ending : Int32) (v_started : Int32) (v_faulty : Int32) (v_nibbles : Int32) (v_ended : Int32) (v_any : Int32) (v_goodSource : Int32) (v_goodLength : Int32) (tf : Nat → Int32) (lf : Nat → Int32) (k : Int32) (v : Int32) (hnw : nw < 2 ^ 30) : Met l yX8_hit wsX8_hit ({ frames := 0, cells := 0, slots := 0, locals := 0 }) (PC D cI cG tt [.ref h0, .int k, .int v] [(h0, .inr (8, [.int v_ownSource, .int v_ownTarget, .int v_given, .ref a_gift, .int v_frames, .ref a_queue, .int v_bitCount, .int v_bitAt, .ref a_bits, .int v_inFrame, .int v_idle, .int v_register, .int v_phase, .int v_size, .ref a_bytes, .int (nI nw), .ref a_hitTime, .ref a_hitLevel, .int v_got, .int v_ear, .int v_run, .int v_locked, .int v_reads, .int v_quiet, .int v_ones, .int v_last, .int v_heard, .int v_ending, .int v_started, .int v_faulty, .int v_nibbles, .ref a_nibble, .ref a_counts, .int v_ended, .int v_any, .int v_goodSource, .int v_goodLength, .ref a_good])), (a_hitTime, .inl (cI, 128, .inl tf)), (a_hitLevel, .inl (cI, 128, .inl lf))] sz) (QI (fun (r : Int32) (u : (Nat → Int32) × (Nat → Int32)) => match u with | (tf2, lf2) => r = bI (okH k v) ∧ (tf2 = if okH k v = true then upd tf ((nw + k.toNatClampNeg) % 128) (nI (nw + k.toNatClampNeg)) else tf) ∧ (lf2 = if okH k v = true then upd lf ((nw + k.toNatClampNeg) % 128) v else lf)) (fun (u : (Nat → Int32) × (Nat → Int32)) => match u with | (tf2, lf2) => [(h0, .inr (8, [.int v_ownSource, .int v_ownTarget, .int v_given, .ref a_gift, .int v_frames, .ref a_queue, .int v_bitCount, .int v_bitAt, .ref a_bits, .int v_inFrame, .int v_idle, .int v_register, .int v_phase, .int v_size, .ref a_bytes, .int (nI nw), .ref a_hitTime, .ref a_hitLevel, .int v_got, .int v_ear, .int v_run, .int v_locked, .int v_reads, .int v_quiet, .int v_ones, .int v_last, .int v_heard, .int v_ending, .int v_started, .int v_faulty, .int v_nibbles, .ref a_nibble, .ref a_counts, .int v_ended, .int v_any, .int v_goodSource, .int v_goodLength, .ref a_good])), (a_hitTime, .inl (cI, 128, .inl tf2)), (a_hitLevel, .inl (cI, 128, .inl lf2))]) D (va_A [(h0, .inr (8, [.int v_ownSource, .int v_ownTarget, .int v_given, .ref a_gift, .int v_frames, .ref a_queue, .int v_bitCount, .int v_bitAt, .ref a_bits, .int v_inFrame, .int v_idle, .int v_register, .int v_phase, .int v_size, .ref a_bytes, .int (nI nw), .ref a_hitTime, .ref a_hitLevel, .int v_got, .int v_ear, .int v_run, .int v_locked, .int v_reads, .int v_quiet, .int v_ones, .int v_last, .int v_heard, .int v_ending, .int v_started, .int v_faulty, .int v_nibbles, .ref a_nibble, .ref a_counts, .int v_ended, .int v_any, .int v_goodSource, .int v_goodLength, .ref a_good])), (a_hitTime, .inl (cI, 128, .inl tf)), (a_hitLevel, .inl (cI, 128, .inl lf))] sz)) 0 0 (va_A [(h0, .inr (8, [.int v_ownSource, .int v_ownTarget, .int v_given, .ref a_gift, .int v_frames, .ref a_queue, .int v_bitCount, .int v_bitAt, .ref a_bits, .int v_inFrame, .int v_idle, .int v_register, .int v_phase, .int v_size, .ref a_bytes, .int (nI nw), .ref a_hitTime, .ref a_hitLevel, .int v_got, .int v_ear, .int v_run, .int v_locked, .int v_reads, .int v_quiet, .int v_ones, .int v_last, .int v_heard, .int v_ending, .int v_started, .int v_faulty, .int v_nibbles, .ref a_nibble, .ref a_counts, .int v_ended, .int v_any, .int v_goodSource, .int v_goodLength, .ref a_good])), (a_hitTime, .inl (cI, 128, .inl tf)), (a_hitLevel, .inl (cI, 128, .inl lf))] sz) := by
  refine ct_of (y := yX8_hit) (cc := cX8_hit) (maxL := 3) (ret := (some .boolean)) (Qf := QI (fun (r : Int32) (u : (Nat → Int32) × (Nat → Int32)) => match u with | (tf2, lf2) => r = bI (okH k v) ∧ (tf2 = if okH k v = true then upd tf ((nw + k.toNatClampNeg) % 128) (nI (nw + k.toNatClampNeg)) else tf) ∧ (lf2 = if okH k v = true then upd lf ((nw + k.toNatClampNeg) % 128) v else lf)) (fun (u : (Nat → Int32) × (Nat → Int32)) => match u with | (tf2, lf2) => [(h0, .inr (8, [.int v_ownSource, .int v_ownTarget, .int v_given, .ref a_gift, .int v_frames, .ref a_queue, .int v_bitCount, .int v_bitAt, .ref a_bits, .int v_inFrame, .int v_idle, .int v_register, .int v_phase, .int v_size, .ref a_bytes, .int (nI nw), .ref a_hitTime, .ref a_hitLevel, .int v_got, .int v_ear, .int v_run, .int v_locked, .int v_reads, .int v_quiet, .int v_ones, .int v_last, .int v_heard, .int v_ending, .int v_started, .int v_faulty, .int v_nibbles, .ref a_nibble, .ref a_counts, .int v_ended, .int v_any, .int v_goodSource, .int v_goodLength, .ref a_good])), (a_hitTime, .inl (cI, 128, .inl tf2)), (a_hitLevel, .inl (cI, 128, .inl lf2))]) D) (by decide) rfl ?_
  intro p e s m args below meth c A Q R H locs hR hQ hx hb hml hr hts hown hlocks hin hP hD hE hT hA hS
  have hK := hE.1
  have hl := lv_entry ([.ref h0, .int k, .int v]) (n := 3) (Nat.le_of_ble_eq_true rfl)
  rw [lg_entry_eq]
  generalize (lg_sl ([.ref h0, .int k, .int v]) ++ List.replicate (3 - (lg_sl ([.ref h0, .int k, .int v])).length) Slot.unset).toArray = ls at hl ⊢
  have hl : lv_has ls 3 [(0, .ref h0), (1, .int k), (2, .int v)] := hl
  refine lv_iload_n hx hb dX8_hit_0 rfl (lv_at hl 1 rfl) ?_
  refine lv_iconst (v := nI 1) hx hb dX8_hit_1 rfl ?_
  refine lv_icmp_lt (tgt := 21) hx hb dX8_hit_2 (by decide) (fun c2 => ?_) (fun c2 => ?_)
  · skip
    have hno : okH k v = false := okH_1 c2
    refine lv_iconst (v := nI 0) hx hb dX8_hit_21 rfl ?_
    refine W_q hQ ?_
    exact rt_z (tf, lf) hx hb hr hlocks dX8_hit_22 hS hP hD (⟨by rw [hno]; rfl, by rw [hno]; rfl, by rw [hno]; rfl⟩) rfl
  · skip
    refine lv_iload_n hx hb dX8_hit_5 rfl (lv_at hl 1 rfl) ?_
    refine lv_bipush (v := nI 100) hx hb dX8_hit_6 rfl ?_
    refine lv_icmp_gt (tgt := 21) hx hb dX8_hit_8 (by decide) (fun c8 => ?_) (fun c8 => ?_)
    · skip
      have hno : okH k v = false := okH_2 c8
      refine lv_iconst (v := nI 0) hx hb dX8_hit_21 rfl ?_
      refine W_q hQ ?_
      exact rt_z (tf, lf) hx hb hr hlocks dX8_hit_22 hS hP hD (⟨by rw [hno]; rfl, by rw [hno]; rfl, by rw [hno]; rfl⟩) rfl
    · skip
      refine lv_iload_n hx hb dX8_hit_11 rfl (lv_at hl 2 rfl) ?_
      refine lv_iconst (v := (-1)) hx hb dX8_hit_12 rfl ?_
      refine lv_icmp_lt (tgt := 21) hx hb dX8_hit_13 (by decide) (fun c13 => ?_) (fun c13 => ?_)
      · skip
        have hno : okH k v = false := okH_3 c13
        refine lv_iconst (v := nI 0) hx hb dX8_hit_21 rfl ?_
        refine W_q hQ ?_
        exact rt_z (tf, lf) hx hb hr hlocks dX8_hit_22 hS hP hD (⟨by rw [hno]; rfl, by rw [hno]; rfl, by rw [hno]; rfl⟩) rfl
      · skip
        refine lv_iload_n hx hb dX8_hit_16 rfl (lv_at hl 2 rfl) ?_
        refine lv_iconst (v := nI 1) hx hb dX8_hit_17 rfl ?_
        refine lv_icmp_le (tgt := 23) hx hb dX8_hit_18 (by decide) (fun c18 => ?_) (fun c18 => ?_)
        · skip
          have hyes : okH k v = true := okH_5 c2 c8 c13 c18
          obtain ⟨j, hj1, hj2, rfl⟩ := okH_j hyes
          refine lv_aload_n hx hb dX8_hit_23 rfl (lv_at hl 0 rfl) ?_
          refine va_get (D := D) (ci := 8) (v := .ref a_hitTime) (C := RX8) (T := TX8) (N := 38) hx hb hts inX8_hit_X8 hown hK hP 0 rfl rfl 16 (by decide) (hts (.fieldLink RX8 22 "ScrambledLineModel" "hitTime" "[I") (by decide +kernel)) (fun _ h9 => h9) rfl dX8_hit_24 ?_
          refine lv_aload_n hx hb dX8_hit_27 rfl (lv_at hl 0 rfl) ?_
          refine va_get (D := D) (ci := 8) (v := .int (nI nw)) (C := RX8) (T := TX8) (N := 38) hx hb hts inX8_hit_X8 hown hK hP 0 rfl rfl 15 (by decide) (hts (.fieldLink RX8 88 "ScrambledLineModel" "now" "I") (by decide +kernel)) (fun _ h9 => h9) rfl dX8_hit_28 ?_
          refine lv_iload_n hx hb dX8_hit_31 rfl (lv_at hl 1 rfl) ?_
          refine lv_iadd hx hb dX8_hit_32 ?_
          refine lv_to (y := nI (nw + j)) (nI_add nw j) ?_
          refine lv_sipush (v := nI 128) hx hb dX8_hit_33 rfl ?_
          refine lv_irem hx hb dX8_hit_36 (by decide) ?_
          refine lv_to (y := nI ((nw + j) % 128)) (pk_rem (by omega) (by decide) (by decide)) ?_
          refine lv_aload_n hx hb dX8_hit_37 rfl (lv_at hl 0 rfl) ?_
          refine va_get (D := D) (ci := 8) (v := .int (nI nw)) (C := RX8) (T := TX8) (N := 38) hx hb hts inX8_hit_X8 hown hK hP 0 rfl rfl 15 (by decide) (hts (.fieldLink RX8 88 "ScrambledLineModel" "now" "I") (by decide +kernel)) (fun _ h9 => h9) rfl dX8_hit_38 ?_
          refine lv_iload_n hx hb dX8_hit_41 rfl (lv_at hl 1 rfl) ?_
          refine lv_iadd hx hb dX8_hit_42 ?_
          refine lv_to (y := nI (nw + j)) (nI_add nw j) ?_
          refine gs_i hx hb hK hP hD hS 1 rfl (i := ((nw + j) % 128)) (x := nI (nw + j)) (by omega) (by first | decide | omega) dX8_hit_43 (fun H locs hP hD hS => ?_)
          have hP : va_P D vwCl [(h0, .inr (8, [.int v_ownSource, .int v_ownTarget, .int v_given, .ref a_gift, .int v_frames, .ref a_queue, .int v_bitCount, .int v_bitAt, .ref a_bits, .int v_inFrame, .int v_idle, .int v_register, .int v_phase, .int v_size, .ref a_bytes, .int (nI nw), .ref a_hitTime, .ref a_hitLevel, .int v_got, .int v_ear, .int v_run, .int v_locked, .int v_reads, .int v_quiet, .int v_ones, .int v_last, .int v_heard, .int v_ending, .int v_started, .int v_faulty, .int v_nibbles, .ref a_nibble, .ref a_counts, .int v_ended, .int v_any, .int v_goodSource, .int v_goodLength, .ref a_good])), (a_hitTime, .inl (cI, 128, .inl (upd tf ((nw + j) % 128) (nI (nw + j))))), (a_hitLevel, .inl (cI, 128, .inl lf))] H := hP
          have hD : va_D A [(h0, .inr (8, [.int v_ownSource, .int v_ownTarget, .int v_given, .ref a_gift, .int v_frames, .ref a_queue, .int v_bitCount, .int v_bitAt, .ref a_bits, .int v_inFrame, .int v_idle, .int v_register, .int v_phase, .int v_size, .ref a_bytes, .int (nI nw), .ref a_hitTime, .ref a_hitLevel, .int v_got, .int v_ear, .int v_run, .int v_locked, .int v_reads, .int v_quiet, .int v_ones, .int v_last, .int v_heard, .int v_ending, .int v_started, .int v_faulty, .int v_nibbles, .ref a_nibble, .ref a_counts, .int v_ended, .int v_any, .int v_goodSource, .int v_goodLength, .ref a_good])), (a_hitTime, .inl (cI, 128, .inl (upd tf ((nw + j) % 128) (nI (nw + j))))), (a_hitLevel, .inl (cI, 128, .inl lf))] := hD
          refine lv_aload_n hx hb dX8_hit_44 rfl (lv_at hl 0 rfl) ?_
          refine va_get (D := D) (ci := 8) (v := .ref a_hitLevel) (C := RX8) (T := TX8) (N := 38) hx hb hts inX8_hit_X8 hown hK hP 0 rfl rfl 17 (by decide) (hts (.fieldLink RX8 25 "ScrambledLineModel" "hitLevel" "[I") (by decide +kernel)) (fun _ h9 => h9) rfl dX8_hit_45 ?_
          refine lv_aload_n hx hb dX8_hit_48 rfl (lv_at hl 0 rfl) ?_
          refine va_get (D := D) (ci := 8) (v := .int (nI nw)) (C := RX8) (T := TX8) (N := 38) hx hb hts inX8_hit_X8 hown hK hP 0 rfl rfl 15 (by decide) (hts (.fieldLink RX8 88 "ScrambledLineModel" "now" "I") (by decide +kernel)) (fun _ h9 => h9) rfl dX8_hit_49 ?_
          refine lv_iload_n hx hb dX8_hit_52 rfl (lv_at hl 1 rfl) ?_
          refine lv_iadd hx hb dX8_hit_53 ?_
          refine lv_to (y := nI (nw + j)) (nI_add nw j) ?_
          refine lv_sipush (v := nI 128) hx hb dX8_hit_54 rfl ?_
          refine lv_irem hx hb dX8_hit_57 (by decide) ?_
          refine lv_to (y := nI ((nw + j) % 128)) (pk_rem (by omega) (by decide) (by decide)) ?_
          refine lv_iload_n hx hb dX8_hit_58 rfl (lv_at hl 2 rfl) ?_
          refine gs_i hx hb hK hP hD hS 2 rfl (i := ((nw + j) % 128)) (x := v) (by omega) (by first | decide | omega) dX8_hit_59 (fun H locs hP hD hS => ?_)
          have hP : va_P D vwCl [(h0, .inr (8, [.int v_ownSource, .int v_ownTarget, .int v_given, .ref a_gift, .int v_frames, .ref a_queue, .int v_bitCount, .int v_bitAt, .ref a_bits, .int v_inFrame, .int v_idle, .int v_register, .int v_phase, .int v_size, .ref a_bytes, .int (nI nw), .ref a_hitTime, .ref a_hitLevel, .int v_got, .int v_ear, .int v_run, .int v_locked, .int v_reads, .int v_quiet, .int v_ones, .int v_last, .int v_heard, .int v_ending, .int v_started, .int v_faulty, .int v_nibbles, .ref a_nibble, .ref a_counts, .int v_ended, .int v_any, .int v_goodSource, .int v_goodLength, .ref a_good])), (a_hitTime, .inl (cI, 128, .inl (upd tf ((nw + j) % 128) (nI (nw + j))))), (a_hitLevel, .inl (cI, 128, .inl (upd lf ((nw + j) % 128) v)))] H := hP
          have hD : va_D A [(h0, .inr (8, [.int v_ownSource, .int v_ownTarget, .int v_given, .ref a_gift, .int v_frames, .ref a_queue, .int v_bitCount, .int v_bitAt, .ref a_bits, .int v_inFrame, .int v_idle, .int v_register, .int v_phase, .int v_size, .ref a_bytes, .int (nI nw), .ref a_hitTime, .ref a_hitLevel, .int v_got, .int v_ear, .int v_run, .int v_locked, .int v_reads, .int v_quiet, .int v_ones, .int v_last, .int v_heard, .int v_ending, .int v_started, .int v_faulty, .int v_nibbles, .ref a_nibble, .ref a_counts, .int v_ended, .int v_any, .int v_goodSource, .int v_goodLength, .ref a_good])), (a_hitTime, .inl (cI, 128, .inl (upd tf ((nw + j) % 128) (nI (nw + j))))), (a_hitLevel, .inl (cI, 128, .inl (upd lf ((nw + j) % 128) v)))] := hD
          refine lv_iconst (v := nI 1) hx hb dX8_hit_60 rfl ?_
          refine W_q hQ ?_
          exact rt_z (upd tf ((nw + j) % 128) (nI (nw + j)), upd lf ((nw + j) % 128) v) hx hb hr hlocks dX8_hit_61 hS hP hD (⟨by rw [hyes]; rfl, by rw [if_pos hyes, nI_clamp (by omega)], by rw [if_pos hyes, nI_clamp (by omega)]⟩) rfl
        · skip
          have hno : okH k v = false := okH_4 c18
          refine lv_iconst (v := nI 0) hx hb dX8_hit_21 rfl ?_
          refine W_q hQ ?_
          exact rt_z (tf, lf) hx hb hr hlocks dX8_hit_22 hS hP hD (⟨by rw [hno]; rfl, by rw [hno]; rfl, by rw [hno]; rfl⟩) rfl
