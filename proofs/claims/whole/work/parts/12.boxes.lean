theorem isB_255 {x : Int32} (h : nI 255 < x) : nI 256 ≤ x := by
  rw [Int32.le_iff_toInt_le]
  have := Int32.lt_iff_toInt_lt.mp h
  rw [nI_toInt (by omega)] at this ⊢
  omega
theorem isB_256 {x : Int32} (h : nI 256 ≤ x) : nI 255 < x := by
  rw [Int32.lt_iff_toInt_lt]
  have := Int32.le_iff_toInt_le.mp h
  rw [nI_toInt (by omega)] at this ⊢
  omega
/-- the rows of the four waiting frames -/
def rsel (r0 r1 r2 r3 k : Nat) : Nat := if k = 0 then r0 else if k = 1 then r1 else if k = 2 then r2 else r3
def gq4 (r0 r1 r2 r3 : Nat) : Nat → Option Nat := fun i => if i < 4 then some (rsel r0 r1 r2 r3 i) else none
theorem gq4_at {r0 r1 r2 r3 k : Nat} (h : k < 4) : va_rf (gq4 r0 r1 r2 r3 k) = .ref (rsel r0 r1 r2 r3 k) := by
  unfold gq4
  rw [if_pos h]
  rfl
/-- the waiting frames, as the program holds them: ff the first one's row -/
def QRel (src ff ql : Nat) (q : Nat → Nat) (Rw : Nat → Nat → Int32) : Prop := ∀ j, j < ql → ∀ i, i < fsz (q (32 * j + 1)) + 4 → Rw ((ff + j) % 4) i = nI (qB src q j i)
/-- the queue with a frame more -/
def qput (q : Nat → Nat) (ql t n : Nat) (d : Nat → Nat) : Nat → Nat := fun k => if k < 32 * ql then q k else if k = 32 * ql then t else if k = 32 * ql + 1 then n else if k - (32 * ql + 2) < n then d (k - (32 * ql + 2)) else 0
theorem fb_congr {src t n : Nat} {d d' : Nat → Nat} (h : ∀ i, i < n → d i = d' i) (i : Nat) : fb src t n d i = fb src t n d' i := by
  have hb : ∀ j, bd src t n d j = bd src t n d' j := fun j => by
    unfold bd
    by_cases h0 : j = 0
    · rw [if_pos h0, if_pos h0]
    · rw [if_neg h0, if_neg h0]
      by_cases h1 : j = 1
      · rw [if_pos h1, if_pos h1]
      · rw [if_neg h1, if_neg h1]
        by_cases h2 : j = 2
        · rw [if_pos h2, if_pos h2]
        · rw [if_neg h2, if_neg h2]
          by_cases h3 : j < 3 + n
          · rw [if_pos h3, if_pos h3, h (j - 3) (by omega)]
          · rw [if_neg h3, if_neg h3]
  have e : bd src t n d = bd src t n d' := funext hb
  unfold fb fcv
  rw [e]
theorem qB_put_old {src ql t n j : Nat} {q d : Nat → Nat} (hj : j < ql) (hn : q (32 * j + 1) ≤ 24) : qB src (qput q ql t n d) j = qB src q j := by
  have e : ∀ k, k < 32 * ql → qput q ql t n d k = q k := fun k hk => if_pos hk
  funext i
  unfold qB
  rw [e (32 * j) (by omega), e (32 * j + 1) (by omega)]
  exact fb_congr (fun i hi => e _ (by omega)) i
theorem qB_put_new {src ql t n : Nat} {q d : Nat → Nat} : qB src (qput q ql t n d) ql = fb src t n d := by
  have e0 : qput q ql t n d (32 * ql) = t := by unfold qput; rw [if_neg (by omega), if_pos rfl]
  have e1 : qput q ql t n d (32 * ql + 1) = n := by unfold qput; rw [if_neg (by omega), if_neg (by omega), if_pos rfl]
  funext i
  unfold qB
  rw [e0, e1]
  refine fb_congr (fun i hi => ?_) i
  unfold qput
  rw [if_neg (by omega), if_neg (by omega), if_neg (by omega), if_pos (by omega)]
  congr 1
  omega
theorem QRel_put {src ff fc t gl k : Nat} {q gd : Nat → Nat} {Rw : Nat → Nat → Int32} {row : Nat → Int32} (h : QRel src ff fc q Rw) (hq : fc < 4) (hg : gl ≤ 24) (hk : (ff + fc) % 4 = k) (hrow : ∀ i, i < fsz gl + 4 → row i = nI (fb src t gl gd i)) (hqn : ∀ j, j < fc → q (32 * j + 1) ≤ 24) : QRel src ff (fc + 1) (qput q fc t gl gd) (va_up Rw k row) := by
  intro j hj i hi
  by_cases e : j = fc
  · subst e
    have e1 : qput q j t gl gd (32 * j + 1) = gl := by unfold qput; rw [if_neg (by omega), if_neg (by omega), if_pos rfl]
    rw [e1] at hi
    rw [qB_put_new, hk, show va_up Rw k row k = row from va_up_self _ _ _]
    exact hrow i hi
  · have e1 : qput q fc t gl gd (32 * j + 1) = q (32 * j + 1) := if_pos (by omega)
    rw [e1] at hi
    rw [qB_put_old (by omega) (hqn j (by omega)), show va_up Rw k row ((ff + j) % 4) = Rw ((ff + j) % 4) from va_up_ne _ _ (by omega)]
    exact h j (by omega) i hi
theorem ff_body {src t gl : Nat} {gd : Nat → Nat} {gf rf g : Nat → Int32} (hg : gl ≤ 24) (hgd : ∀ j, j < gl → gf j = nI (gd j) ∧ gd j < 256) (h : ∀ j, g j = if 3 + gl ≤ j ∧ j < fsz gl then nI 0 else va_cpy gf (upd (upd (upd rf 0 (nI t)) 1 (nI src)) 2 (nI gl)) 0 3 gl j) : ∀ i, i < fsz gl → g i = nI (bd src t gl gd i) := by
  intro i hi
  rw [h i]
  unfold bd
  by_cases h0 : i = 0
  · subst h0; rw [if_neg (by omega), pk_cpy_out (by omega), pk_un (by omega), pk_un (by omega), pk_us, if_pos rfl]
  · by_cases h1 : i = 1
    · subst h1; rw [if_neg (by omega), pk_cpy_out (by omega), pk_un (by omega), pk_us, if_neg (by omega), if_pos rfl]
    · by_cases h2 : i = 2
      · subst h2; rw [if_neg (by omega), pk_cpy_out (by omega), pk_us, if_neg (by omega), if_neg (by omega), if_pos rfl]
      · rw [if_neg (c := i = 0) h0, if_neg (c := i = 1) h1, if_neg (c := i = 2) h2]
        by_cases h3 : i < 3 + gl
        · rw [if_neg (by omega), pk_cpy_in (by omega) (by omega), if_pos h3, show 0 + (i - 3) = i - 3 by omega]
          exact (hgd (i - 3) (by omega)).1
        · rw [if_pos ⟨by omega, hi⟩, if_neg h3]
theorem ff_ck {src t gl : Nat} {gd : Nat → Nat} {g : Nat → Int32} (h : ∀ i, i < fsz gl → g i = nI (bd src t gl gd i)) : ckV g (fsz gl) = fcv src t gl gd := by
  unfold fcv ckV
  rw [ck_congr (fsz gl) h]
theorem ff_0 {src t gl : Nat} {gd : Nat → Nat} {g : Nat → Int32} (h : ∀ i, i < fsz gl → g i = nI (bd src t gl gd i)) : ∀ j, j < fsz gl + 0 → g j = nI (fb src t gl gd j) := fun j hj => by
  unfold fb
  rw [if_pos (by omega)]
  exact h j (by omega)
theorem ff_s {src t gl i : Nat} {gd : Nat → Nat} {g : Nat → Int32} (h : ∀ j, j < fsz gl + i → g j = nI (fb src t gl gd j)) : ∀ j, j < fsz gl + (i + 1) → upd g (fsz gl + i) (nI ((fcv src t gl gd).toBitVec.toNat / 2 ^ (8 * i) % 256)) j = nI (fb src t gl gd j) := fun j hj => by
  by_cases e : j = fsz gl + i
  · subst e
    rw [pk_us]
    unfold fb
    rw [if_neg (by omega), show fsz gl + i - fsz gl = i by omega]
  · rw [pk_un e]
    exact h j (by omega)
theorem ff_end {src t gl i : Nat} {gd : Nat → Nat} {g : Nat → Int32} (hi : i = 4) (h : ∀ j, j < fsz gl + i → g j = nI (fb src t gl gd j)) : ∀ j, j < fsz gl + 4 → g j = nI (fb src t gl gd j) := by subst hi; exact h
theorem ff_sh {x : Int32} {i : Nat} (hi : i < 4) : ((x).toUInt32 >>> ((nI (8 * i)).toUInt32 &&& Int32.toUInt32 31)).toInt32 &&& nI 255 = nI (x.toBitVec.toNat / 2 ^ (8 * i) % 256) := by
  rw [pk_and _ 8 rfl, pk_ushr x _ (8 * i) (by
    rcases (show i = 0 ∨ i = 1 ∨ i = 2 ∨ i = 3 by omega) with rfl | rfl | rfl | rfl <;> decide)]
set_option maxHeartbeats 4000000 in
set_option maxRecDepth 100000 in
theorem c_J9_floorMod_7cf53 (l : Launch) (D : va_G) (cI cG : ClassId) (tt : Nat × Nat × Nat) (sz : Nat) (x : Int32) (d : Nat) (hd : 0 < d) (hd2 : d < 2 ^ 30) : Met l yJ9_floorMod_7cf53 wsJ9_floorMod_7cf53 ({ frames := 0, cells := 0, slots := 0, locals := 0 }) (PC D cI cG tt [.int x, .int (nI d)] [] sz) (QI (fun (r : Int32) (u : Unit) => r = nI (flm x d)) (fun (u : Unit) => []) D (va_A [] sz)) 0 0 (va_A [] sz) := by
  refine ct_ofF (y := yJ9_floorMod_7cf53) (cc := cJ9_floorMod_7cf53) (maxL := 3) (ret := (some .int)) (Qf := QI (fun (r : Int32) (u : Unit) => r = nI (flm x d)) (fun (u : Unit) => []) D) (by decide +kernel) rfl ?_
  intro p e s m args below meth c A Q R H locs hR hQ hx hb hml hr hts hown hlocks hin hP hD hE hT hA hS
  have hK := hE.1
  have hl := lv_entry ([.int x, .int (nI d)]) (n := 3) (Nat.le_of_ble_eq_true rfl)
  rw [lg_entry_eq]
  generalize (lg_sl ([.int x, .int (nI d)]) ++ List.replicate (3 - (lg_sl ([.int x, .int (nI d)])).length) Slot.unset).toArray = ls at hl ⊢
  have hl : lv_has ls 3 [(0, .int x), (1, .int (nI d))] := hl
  refine lv_iload_n hx hb dJ9_floorMod_7cf53_0 rfl (lv_at hl 0 rfl) ?_
  refine lv_iload_n hx hb dJ9_floorMod_7cf53_1 rfl (lv_at hl 1 rfl) ?_
  refine lv_irem hx hb dJ9_floorMod_7cf53_2 (nI_ne0 hd (by omega)) ?_
  refine lv_topi (fun mm em => ?_)
  refine lv_istore_n (lv' := [(2, .int mm), (0, .int x), (1, .int (nI d))]) hx hb dJ9_floorMod_7cf53_3 rfl hl (by decide) rfl (fun ls hl => ?_)
  refine lv_iload_n hx hb dJ9_floorMod_7cf53_4 rfl (lv_at hl 1 rfl) ?_
  refine lv_iload_n hx hb dJ9_floorMod_7cf53_5 rfl (lv_at hl 2 rfl) ?_
  refine lv_ixor hx hb dJ9_floorMod_7cf53_6 ?_
  refine lv_if_ge (tgt := 18) hx hb dJ9_floorMod_7cf53_7 (by decide) (fun c7 => ?_) (fun c7 => ?_)
  · skip
    have hpos : 0 ≤ mm := flm_p hd hd2 em ((flm_s hd2).mp c7)
    refine lv_iload_n hx hb dJ9_floorMod_7cf53_18 rfl (lv_at hl 0 rfl) ?_
    refine W_q hQ ?_
    exact rt_i () hx hb hr hlocks dJ9_floorMod_7cf53_19 hS hP hD (flm_a hd hd2 em hpos)
  · skip
    have hng : ¬ 0 ≤ x := fun q => c7 ((flm_s hd2).mpr q)
    refine lv_iload_n hx hb dJ9_floorMod_7cf53_10 rfl (lv_at hl 0 rfl) ?_
    refine lv_if_eq (tgt := 18) hx hb dJ9_floorMod_7cf53_11 (by decide) (fun c11 => ?_) (fun c11 => ?_)
    · skip
      have hpos : 0 ≤ mm := by rw [c11]; decide
      refine lv_iload_n hx hb dJ9_floorMod_7cf53_18 rfl (lv_at hl 0 rfl) ?_
      refine W_q hQ ?_
      exact rt_i () hx hb hr hlocks dJ9_floorMod_7cf53_19 hS hP hD (flm_a hd hd2 em hpos)
    · skip
      have hneg : ¬ 0 ≤ mm := flm_n hd hd2 em hng c11
      refine lv_iload_n hx hb dJ9_floorMod_7cf53_14 rfl (lv_at hl 0 rfl) ?_
      refine lv_iload_n hx hb dJ9_floorMod_7cf53_15 rfl (lv_at hl 2 rfl) ?_
      refine lv_iadd hx hb dJ9_floorMod_7cf53_16 ?_
      refine W_q hQ ?_
      exact rt_i () hx hb hr hlocks dJ9_floorMod_7cf53_17 hS hP hD (flm_b hd hd2 em hneg)

set_option maxHeartbeats 4000000 in
set_option maxRecDepth 100000 in
theorem c_X7_isByte (l : Launch) (D : va_G) (cI cG : ClassId) (tt : Nat × Nat × Nat) (sz : Nat) (x : Int32) : Met l yX7_isByte wsX7_isByte ({ frames := 0, cells := 0, slots := 0, locals := 0 }) (PC D cI cG tt [.int x] [] sz) (QI (fun (r : Int32) (u : Unit) => r = bI (isB x)) (fun (u : Unit) => []) D (va_A [] sz)) 0 0 (va_A [] sz) := by
  refine ct_of (y := yX7_isByte) (cc := cX7_isByte) (maxL := 1) (ret := (some .boolean)) (Qf := QI (fun (r : Int32) (u : Unit) => r = bI (isB x)) (fun (u : Unit) => []) D) (by decide) rfl ?_
  intro p e s m args below meth c A Q R H locs hR hQ hx hb hml hr hts hown hlocks hin hP hD hE hT hA hS
  have hK := hE.1
  have hl := lv_entry ([.int x]) (n := 1) (Nat.le_of_ble_eq_true rfl)
  rw [lg_entry_eq]
  generalize (lg_sl ([.int x]) ++ List.replicate (1 - (lg_sl ([.int x])).length) Slot.unset).toArray = ls at hl ⊢
  have hl : lv_has ls 1 [(0, .int x)] := hl
  refine lv_iload_n hx hb dX7_isByte_0 rfl (lv_at hl 0 rfl) ?_
  refine lv_if_lt (tgt := 15) hx hb dX7_isByte_1 (by decide) (fun c1 => ?_) (fun c1 => ?_)
  · skip
    have hb0 : isB x = false := isB_1 c1
    refine lv_iconst (v := nI 0) hx hb dX7_isByte_15 rfl ?_
    refine W_q hQ ?_
    exact rt_z () hx hb hr hlocks dX7_isByte_16 hS hP hD (by rw [hb0]; rfl) rfl
  · skip
    
    refine lv_iload_n hx hb dX7_isByte_4 rfl (lv_at hl 0 rfl) ?_
    refine lv_sipush (v := nI 256) hx hb dX7_isByte_5 rfl ?_
    refine lv_icmp_ge (tgt := 15) hx hb dX7_isByte_8 (by decide) (fun c8 => ?_) (fun c8 => ?_)
    · skip
      have hb0 : isB x = false := isB_2 c8
      refine lv_iconst (v := nI 0) hx hb dX7_isByte_15 rfl ?_
      refine W_q hQ ?_
      exact rt_z () hx hb hr hlocks dX7_isByte_16 hS hP hD (by rw [hb0]; rfl) rfl
    · skip
      have hb0 : isB x = true := isB_3 c1 c8
      refine lv_iconst (v := nI 1) hx hb dX7_isByte_11 rfl ?_
      refine lv_goto (tgt := 16) hx hb dX7_isByte_12 (by decide) ?_
      refine W_q hQ ?_
      exact rt_z () hx hb hr hlocks dX7_isByte_16 hS hP hD (by rw [hb0]; rfl) rfl

set_option maxHeartbeats 4000000 in
set_option maxRecDepth 100000 in
theorem c_X8_isByte (l : Launch) (D : va_G) (cI cG : ClassId) (tt : Nat × Nat × Nat) (sz : Nat) (x : Int32) : Met l yX8_isByte wsX8_isByte ({ frames := 0, cells := 0, slots := 0, locals := 0 }) (PC D cI cG tt [.int x] [] sz) (QI (fun (r : Int32) (u : Unit) => r = bI (isB x)) (fun (u : Unit) => []) D (va_A [] sz)) 0 0 (va_A [] sz) := by
  refine ct_of (y := yX8_isByte) (cc := cX8_isByte) (maxL := 1) (ret := (some .boolean)) (Qf := QI (fun (r : Int32) (u : Unit) => r = bI (isB x)) (fun (u : Unit) => []) D) (by decide) rfl ?_
  intro p e s m args below meth c A Q R H locs hR hQ hx hb hml hr hts hown hlocks hin hP hD hE hT hA hS
  have hK := hE.1
  have hl := lv_entry ([.int x]) (n := 1) (Nat.le_of_ble_eq_true rfl)
  rw [lg_entry_eq]
  generalize (lg_sl ([.int x]) ++ List.replicate (1 - (lg_sl ([.int x])).length) Slot.unset).toArray = ls at hl ⊢
  have hl : lv_has ls 1 [(0, .int x)] := hl
  refine lv_iload_n hx hb dX8_isByte_0 rfl (lv_at hl 0 rfl) ?_
  refine lv_if_lt (tgt := 15) hx hb dX8_isByte_1 (by decide) (fun c1 => ?_) (fun c1 => ?_)
  · skip
    have hb0 : isB x = false := isB_1 c1
    refine lv_iconst (v := nI 0) hx hb dX8_isByte_15 rfl ?_
    refine W_q hQ ?_
    exact rt_z () hx hb hr hlocks dX8_isByte_16 hS hP hD (by rw [hb0]; rfl) rfl
  · skip
    
    refine lv_iload_n hx hb dX8_isByte_4 rfl (lv_at hl 0 rfl) ?_
    refine lv_sipush (v := nI 255) hx hb dX8_isByte_5 rfl ?_
    refine lv_icmp_gt (tgt := 15) hx hb dX8_isByte_8 (by decide) (fun c8 => ?_) (fun c8 => ?_)
    · skip
      have hb0 : isB x = false := isB_2 (by exact isB_255 c8)
      refine lv_iconst (v := nI 0) hx hb dX8_isByte_15 rfl ?_
      refine W_q hQ ?_
      exact rt_z () hx hb hr hlocks dX8_isByte_16 hS hP hD (by rw [hb0]; rfl) rfl
    · skip
      have hb0 : isB x = true := isB_3 c1 (fun q => c8 (isB_256 q))
      refine lv_iconst (v := nI 1) hx hb dX8_isByte_11 rfl ?_
      refine lv_goto (tgt := 16) hx hb dX8_isByte_12 (by decide) ?_
      refine W_q hQ ?_
      exact rt_z () hx hb hr hlocks dX8_isByte_16 hS hP hD (by rw [hb0]; rfl) rfl

set_option maxHeartbeats 4000000 in
set_option maxRecDepth 100000 in
theorem c_X7_frameSize (l : Launch) (D : va_G) (cI cG : ClassId) (tt : Nat × Nat × Nat) (sz : Nat) (n : Nat) (hn : n < 2 ^ 30) : Met l yX7_frameSize wsX7_frameSize ({ frames := 1, cells := 0, slots := 0, locals := 14 }) (PC D cI cG tt [.int (nI n)] [] sz) (QI (fun (r : Int32) (u : Unit) => r = nI (fsz n + 4)) (fun (u : Unit) => []) D (va_A [] sz)) 0 0 (va_A [] sz) := by
  refine ct_of (y := yX7_frameSize) (cc := cX7_frameSize) (maxL := 1) (ret := (some .int)) (Qf := QI (fun (r : Int32) (u : Unit) => r = nI (fsz n + 4)) (fun (u : Unit) => []) D) (by decide) rfl ?_
  intro p e s m args below meth c A Q R H locs hR hQ hx hb hml hr hts hown hlocks hin hP hD hE hT hA hS
  have hK := hE.1
  have hl := lv_entry ([.int (nI n)]) (n := 1) (Nat.le_of_ble_eq_true rfl)
  rw [lg_entry_eq]
  generalize (lg_sl ([.int (nI n)]) ++ List.replicate (1 - (lg_sl ([.int (nI n)])).length) Slot.unset).toArray = ls at hl ⊢
  have hl : lv_has ls 1 [(0, .int (nI n))] := hl
  refine lv_iconst (v := nI 3) hx hb dX7_frameSize_0 rfl ?_
  refine lv_iload_n hx hb dX7_frameSize_1 rfl (lv_at hl 0 rfl) ?_
  refine lv_bipush (v := nI 6) hx hb dX7_frameSize_2 rfl ?_
  refine va_mmax hx hb (by rw [hml]; exact hl.1.symm) hown (hts (.methodLink RX7 113 Lib.Math.max.name) (by decide +kernel)) (hts (.static Lib.Math.max.name) (by decide +kernel)) (hts (.initialized "java/lang/Math") (by decide +kernel)) (hts (.code Lib.Math.max.name Lib.Math.max.code 2 (some .int)) (by decide +kernel)) (by rw [hR]; exact Nat.le_of_ble_eq_true rfl) (by rw [hR]; exact Nat.le_of_ble_eq_true rfl) (by rw [hR]; exact Nat.le_of_ble_eq_true rfl) (by rw [hR]; exact Nat.le_of_ble_eq_true rfl) dX7_frameSize_4 ?_
  refine lv_to (y := nI (max n 6)) (mx_n (by omega) (by omega)) ?_
  refine lv_iadd hx hb dX7_frameSize_7 ?_
  refine lv_to (y := nI (3 + (max n 6))) (nI_add 3 (max n 6)) ?_
  refine lv_iconst (v := nI 4) hx hb dX7_frameSize_8 rfl ?_
  refine lv_iadd hx hb dX7_frameSize_9 ?_
  refine lv_to (y := nI ((3 + (max n 6)) + 4)) (nI_add (3 + (max n 6)) 4) ?_
  refine W_q hQ ?_
  exact rt_i () hx hb hr hlocks dX7_frameSize_10 hS hP hD rfl

set_option maxHeartbeats 4000000 in
set_option maxRecDepth 100000 in
theorem c_X7_checkOf (l : Launch) (D : va_G) (cI cG : ClassId) (tt : Nat × Nat × Nat) (sz : Nat) (ad : Nat) (len : Nat) (f : Nat → Int32) (n : Nat) (hn : n ≤ len) (hl0 : len < 2 ^ 31) : Met l yX7_checkOf wsX7_checkOf ({ frames := 0, cells := 0, slots := 0, locals := 0 }) (PC D cI cG tt [.ref ad, .int (nI n)] [(ad, .inl (cI, len, .inl f))] sz) (QI (fun (r : Int32) (u : Unit) => r = ckV f n) (fun (u : Unit) => [(ad, .inl (cI, len, .inl f))]) D (va_A [(ad, .inl (cI, len, .inl f))] sz)) 0 0 (va_A [(ad, .inl (cI, len, .inl f))] sz) := by
  refine ct_of (y := yX7_checkOf) (cc := cX7_checkOf) (maxL := 5) (ret := (some .int)) (Qf := QI (fun (r : Int32) (u : Unit) => r = ckV f n) (fun (u : Unit) => [(ad, .inl (cI, len, .inl f))]) D) (by decide) rfl ?_
  intro p e s m args below meth c A Q R H locs hR hQ hx hb hml hr hts hown hlocks hin hP hD hE hT hA hS
  have hK := hE.1
  have hl := lv_entry ([.ref ad, .int (nI n)]) (n := 5) (Nat.le_of_ble_eq_true rfl)
  rw [lg_entry_eq]
  generalize (lg_sl ([.ref ad, .int (nI n)]) ++ List.replicate (5 - (lg_sl ([.ref ad, .int (nI n)])).length) Slot.unset).toArray = ls at hl ⊢
  have hl : lv_has ls 5 [(0, .ref ad), (1, .int (nI n))] := hl
  refine lv_iconst (v := (-1)) hx hb dX7_checkOf_0 rfl ?_
  refine lv_istore_n (lv' := [(2, .int (-1)), (0, .ref ad), (1, .int (nI n))]) hx hb dX7_checkOf_1 rfl hl (by decide) rfl (fun ls hl => ?_)
  refine lv_iconst (v := nI 0) hx hb dX7_checkOf_2 rfl ?_
  refine lv_istore_n (lv' := [(3, .int (nI 0)), (2, .int (-1)), (0, .ref ad), (1, .int (nI n))]) hx hb dX7_checkOf_3 rfl hl (by decide) rfl (fun ls hl => ?_)
  have L4 : ∀ (fu4 : Nat), ∀ (i : Nat) (cv : Int32), (i ≤ n) → (cv = ck f i) → n - i < fu4 → ∀ (H : Heap) (locs : List Loc), va_P D vwCl [(ad, .inl (cI, len, .inl f))] H → va_D A [(ad, .inl (cI, len, .inl f))] → va_S A s.heap H locs → ∀ ls : Array Slot, lv_has ls 5 [(3, .int (nI i)), (2, .int cv), (0, .ref ad), (1, .int (nI n))] → W p l e R s m args below meth c H locs 0 0 Q (F0 m 4 ls []) := by
    intro fu4
    induction fu4 with
    | zero => intro i cv hi hc hm4; exact absurd hm4 (Nat.not_lt_zero _)
    | succ fu4 ih4 =>
      intro i cv hi hc hm4 H locs hP hD hS ls hl
      refine lv_iload_n hx hb dX7_checkOf_4 rfl (lv_at hl 0 rfl) ?_
      refine lv_iload_n hx hb dX7_checkOf_5 rfl (lv_at hl 3 rfl) ?_
      refine lv_icmp_ge (tgt := 62) hx hb dX7_checkOf_6 (by decide) (fun c6 => ?_) (fun c6 => ?_)
      · skip
        have k6 : n ≤ i := (nI_leI (a := n) (b := i) (by omega) (by omega)).mp c6
        refine lv_iload_n hx hb dX7_checkOf_62 rfl (lv_at hl 1 rfl) ?_
        refine lv_iconst (v := (-1)) hx hb dX7_checkOf_63 rfl ?_
        refine lv_ixor hx hb dX7_checkOf_64 ?_
        refine W_q hQ ?_
        exact rt_i () hx hb hr hlocks dX7_checkOf_65 hS hP hD (by rw [hc, show i = n by omega]; rfl)
      · skip
        have k6 : ¬ n ≤ i := fun zq => c6 ((nI_leI (a := n) (b := i) (by omega) (by omega)).mpr zq)
        refine lv_iload_n hx hb dX7_checkOf_9 rfl (lv_at hl 0 rfl) ?_
        refine lv_aload_n hx hb dX7_checkOf_10 rfl (lv_at hl 2 rfl) ?_
        refine va_alen hx hb hK hP 0 0 rfl rfl (v := nI len) rfl dX7_checkOf_11 ?_
        refine lv_icmp_ge (tgt := 62) hx hb dX7_checkOf_12 (by decide) (fun c12 => ?_) (fun c12 => ?_)
        · skip
          have k12 : len ≤ i := (nI_leI (a := len) (b := i) (by omega) (by omega)).mp c12
          exact False.elim (by omega)
        · skip
          have k12 : ¬ len ≤ i := fun zq => c12 ((nI_leI (a := len) (b := i) (by omega) (by omega)).mpr zq)
          refine lv_iload_n hx hb dX7_checkOf_15 rfl (lv_at hl 1 rfl) ?_
          refine lv_aload_n hx hb dX7_checkOf_16 rfl (lv_at hl 2 rfl) ?_
          refine lv_iload_n hx hb dX7_checkOf_17 rfl (lv_at hl 0 rfl) ?_
          refine gl_i hx hb hK hP 0 rfl (i := i) (by omega) (by first | decide | omega) dX7_checkOf_18 ?_
          refine lv_ixor hx hb dX7_checkOf_19 ?_
          refine lv_istore_n (lv' := [(2, .int (cv ^^^ (f i))), (3, .int (nI i)), (0, .ref ad), (1, .int (nI n))]) hx hb dX7_checkOf_20 rfl hl (by decide) rfl (fun ls hl => ?_)
          refine lv_iconst (v := nI 0) hx hb dX7_checkOf_21 rfl ?_
          refine lv_istore (lv' := [(4, .int (nI 0)), (2, .int (cv ^^^ (f i))), (3, .int (nI i)), (0, .ref ad), (1, .int (nI n))]) hx hb dX7_checkOf_22 hl (by decide) rfl (fun ls hl => ?_)
          have L24 : ∀ (fu24 : Nat), ∀ (k : Nat) (c2 : Int32), (k ≤ 8) → (c2 = ckS (ck f i ^^^ f i) k) → 8 - k < fu24 → ∀ (H : Heap) (locs : List Loc), va_P D vwCl [(ad, .inl (cI, len, .inl f))] H → va_D A [(ad, .inl (cI, len, .inl f))] → va_S A s.heap H locs → ∀ ls : Array Slot, lv_has ls 5 [(4, .int (nI k)), (2, .int c2), (3, .int (nI i)), (0, .ref ad), (1, .int (nI n))] → W p l e R s m args below meth c H locs 0 0 Q (F0 m 24 ls []) := by
            intro fu24
            induction fu24 with
            | zero => intro k c2 hk hc2 hm24; exact absurd hm24 (Nat.not_lt_zero _)
            | succ fu24 ih24 =>
              intro k c2 hk hc2 hm24 H locs hP hD hS ls hl
              refine lv_iload hx hb dX7_checkOf_24 (lv_at hl 0 rfl) ?_
              refine lv_bipush (v := nI 8) hx hb dX7_checkOf_26 rfl ?_
              refine lv_icmp_ge (tgt := 56) hx hb dX7_checkOf_28 (by decide) (fun c28 => ?_) (fun c28 => ?_)
              · skip
                have k28 : 8 ≤ k := (nI_leI (a := 8) (b := k) (by omega) (by omega)).mp c28
                refine lv_iinc (v := nI (i + 1)) (lv' := [(3, .int (nI (i + 1))), (4, .int (nI k)), (2, .int c2), (0, .ref ad), (1, .int (nI n))]) hx hb dX7_checkOf_56 hl (k := 2) rfl (nI_add i 1) (by decide) rfl (fun ls hl => ?_)
                refine lv_goto (tgt := 4) hx hb dX7_checkOf_59 (by decide) ?_
                exact ih4 (i + 1) c2 (by omega) (by rw [hc2, show k = 8 by omega]; rfl) (by omega) _ _ hP hD hS _ (lv_sub hl [0, 2, 3, 4] rfl)
              · skip
                have k28 : ¬ 8 ≤ k := fun zq => c28 ((nI_leI (a := 8) (b := k) (by omega) (by omega)).mpr zq)
                refine lv_iload_n hx hb dX7_checkOf_31 rfl (lv_at hl 1 rfl) ?_
                refine lv_iconst (v := nI 1) hx hb dX7_checkOf_32 rfl ?_
                refine lv_iand hx hb dX7_checkOf_33 ?_
                refine lv_if_eq (tgt := 46) hx hb dX7_checkOf_34 (by decide) (fun c34 => ?_) (fun c34 => ?_)
                · skip
                  
                  refine lv_iload_n hx hb dX7_checkOf_46 rfl (lv_at hl 1 rfl) ?_
                  refine lv_iconst (v := nI 1) hx hb dX7_checkOf_47 rfl ?_
                  refine lv_iushr (v := ((c2).toUInt32 >>> ((nI 1).toUInt32 &&& Int32.toUInt32 31)).toInt32) hx hb dX7_checkOf_48 rfl ?_
                  refine lv_istore_n (lv' := [(2, .int (((c2).toUInt32 >>> ((nI 1).toUInt32 &&& Int32.toUInt32 31)).toInt32)), (4, .int (nI k)), (3, .int (nI i)), (0, .ref ad), (1, .int (nI n))]) hx hb dX7_checkOf_49 rfl hl (by decide) rfl (fun ls hl => ?_)
                  refine lv_iinc (v := nI (k + 1)) (lv' := [(4, .int (nI (k + 1))), (2, .int (((c2).toUInt32 >>> ((nI 1).toUInt32 &&& Int32.toUInt32 31)).toInt32)), (3, .int (nI i)), (0, .ref ad), (1, .int (nI n))]) hx hb dX7_checkOf_50 hl (k := 1) rfl (nI_add k 1) (by decide) rfl (fun ls hl => ?_)
                  refine lv_goto (tgt := 24) hx hb dX7_checkOf_53 (by decide) ?_
                  exact ih24 (k + 1) (((c2).toUInt32 >>> ((nI 1).toUInt32 &&& Int32.toUInt32 31)).toInt32) (by omega) (ckR_0 hc2 c34) (by omega) _ _ hP hD hS _ (lv_sub hl [0, 1, 2, 3, 4] rfl)
                · skip
                  
                  refine lv_iload_n hx hb dX7_checkOf_37 rfl (lv_at hl 1 rfl) ?_
                  refine lv_iconst (v := nI 1) hx hb dX7_checkOf_38 rfl ?_
                  refine lv_iushr (v := ((c2).toUInt32 >>> ((nI 1).toUInt32 &&& Int32.toUInt32 31)).toInt32) hx hb dX7_checkOf_39 rfl ?_
                  refine lv_ldc hx hb (v := (-306674912)) hown (hts (.constant RX7 116 (-306674912)) (by decide +kernel)) dX7_checkOf_40 ?_
                  refine lv_ixor hx hb dX7_checkOf_42 ?_
                  refine lv_goto (tgt := 49) hx hb dX7_checkOf_43 (by decide) ?_
                  refine lv_istore_n (lv' := [(2, .int ((((c2).toUInt32 >>> ((nI 1).toUInt32 &&& Int32.toUInt32 31)).toInt32) ^^^ (-306674912))), (4, .int (nI k)), (3, .int (nI i)), (0, .ref ad), (1, .int (nI n))]) hx hb dX7_checkOf_49 rfl hl (by decide) rfl (fun ls hl => ?_)
                  refine lv_iinc (v := nI (k + 1)) (lv' := [(4, .int (nI (k + 1))), (2, .int ((((c2).toUInt32 >>> ((nI 1).toUInt32 &&& Int32.toUInt32 31)).toInt32) ^^^ (-306674912))), (3, .int (nI i)), (0, .ref ad), (1, .int (nI n))]) hx hb dX7_checkOf_50 hl (k := 1) rfl (nI_add k 1) (by decide) rfl (fun ls hl => ?_)
                  refine lv_goto (tgt := 24) hx hb dX7_checkOf_53 (by decide) ?_
                  exact ih24 (k + 1) ((((c2).toUInt32 >>> ((nI 1).toUInt32 &&& Int32.toUInt32 31)).toInt32) ^^^ (-306674912)) (by omega) (ckR_1 hc2 c34) (by omega) _ _ hP hD hS _ (lv_sub hl [0, 1, 2, 3, 4] rfl)
          exact L24 _ 0 (cv ^^^ (f i)) (Nat.zero_le _) (by rw [hc]; rfl) (Nat.lt_succ_self _) _ _ hP hD hS _ (lv_sub hl [0, 1, 2, 3, 4] rfl)
  exact L4 _ 0 (-1) (Nat.zero_le _) rfl (Nat.lt_succ_self _) _ _ hP hD hS _ (lv_sub hl [0, 1, 2, 3] rfl)

theorem inX1_init_X1 : ∀ w ∈ u_ws RX1 TX1 4, w ∈ wsX1_init := by decide +kernel
set_option maxHeartbeats 4000000 in
set_option maxRecDepth 100000 in
theorem c_X1_init (l : Launch) (D : va_G) (cI cG : ClassId) (tt : Nat × Nat × Nat) (sz : Nat) (h0 : Nat) : Met l yX1_init wsX1_init ({ frames := 1, cells := 2, slots := 35, locals := 12 }) (PC D cI cG tt [.ref h0] [(h0, .inr (1, [.null, .null, .int (nI 0), .int (nI 0)]))] sz) (QV (fun (u : Nat × Nat) => match u with | (q1, q2) => True) (fun (u : Nat × Nat) => match u with | (q1, q2) => [(h0, .inr (1, [.ref q1, .ref q2, .int (-1), .int (-1)])), (q1, .inl (cI, 11, .inl (fun _ => 0))), (q2, .inl (cI, 24, .inl (fun _ => 0)))]) D (va_A [(h0, .inr (1, [.null, .null, .int (nI 0), .int (nI 0)]))] sz)) 2 35 (va_A [(h0, .inr (1, [.null, .null, .int (nI 0), .int (nI 0)]))] sz) := by
  refine ct_of (y := yX1_init) (cc := cX1_init) (maxL := 1) (ret := none) (Qf := QV (fun (u : Nat × Nat) => match u with | (q1, q2) => True) (fun (u : Nat × Nat) => match u with | (q1, q2) => [(h0, .inr (1, [.ref q1, .ref q2, .int (-1), .int (-1)])), (q1, .inl (cI, 11, .inl (fun _ => 0))), (q2, .inl (cI, 24, .inl (fun _ => 0)))]) D) (by decide) rfl ?_
  intro p e s m args below meth c A Q R H locs hR hQ hx hb hml hr hts hown hlocks hin hP hD hE hT hA hS
  have hK := hE.1
  have hl := lv_entry ([.ref h0]) (n := 1) (Nat.le_of_ble_eq_true rfl)
  rw [lg_entry_eq]
  generalize (lg_sl ([.ref h0]) ++ List.replicate (1 - (lg_sl ([.ref h0])).length) Slot.unset).toArray = ls at hl ⊢
  have hl : lv_has ls 1 [(0, .ref h0)] := hl
  refine lv_aload_n hx hb dX1_init_0 rfl (lv_at hl 0 rfl) ?_
  refine W.objInit hx hb hown (hts (.methodLink RX1 3 objectInit) (by decide +kernel)) (hts (.instanceMethod objectInit) (by decide +kernel)) (hts (.code objectInit ⟨#[0xb1]⟩ 1 none) (by decide +kernel)) rfl (by rw [hml]; exact hl.1) rfl dX1_init_1 (by rw [hR]; exact Nat.le_of_ble_eq_true rfl) (by rw [hR]; exact Nat.le_of_ble_eq_true rfl) ?_
  refine W.eq (g2 := F0 m 4 ls []) rfl ?_
  refine lv_aload_n hx hb dX1_init_4 rfl (lv_at hl 0 rfl) ?_
  refine lv_bipush (v := nI 11) hx hb dX1_init_5 rfl ?_
  refine nw_i (N := 11) hx hb (hts (.arrayClass .int) (by decide +kernel)) hK hP hD hS hA (by decide) (by decide) (by rw [hR]; exact Nat.le_of_ble_eq_true rfl) (by rw [hR]; exact Nat.le_of_ble_eq_true rfl) dX1_init_7 (fun q7 H hP hD hS => ?_)
  have hP : va_P D vwCl [(h0, .inr (1, [.null, .null, .int (nI 0), .int (nI 0)])), (q7, .inl (cI, 11, .inl (fun _ => 0)))] H := hP
  have hD : va_D A [(h0, .inr (1, [.null, .null, .int (nI 0), .int (nI 0)])), (q7, .inl (cI, 11, .inl (fun _ => 0)))] := hD
  refine va_putF (D := D) (ci := 1) (v := .ref q7) (ty := (.array .int)) (C := RX1) (T := TX1) (N := 4) hx hb hts inX1_init_X1 tyX1 tyX1_ok nmX1 hown hK hP hD hS 0 rfl rfl 0 (by decide) (hts (.fieldLink RX1 9 "ScrambledLine$Inbox" "counts" "[I") (by decide +kernel)) (fun _ h9 => h9) rfl hin rfl (by decide +kernel) rfl rfl (Nat.le_of_ble_eq_true rfl) dX1_init_9 (fun H locs hP hD hS => ?_)
  have hP : va_P D vwCl [(h0, .inr (1, [.ref q7, .null, .int (nI 0), .int (nI 0)])), (q7, .inl (cI, 11, .inl (fun _ => 0)))] H := hP
  have hD : va_D A [(h0, .inr (1, [.ref q7, .null, .int (nI 0), .int (nI 0)])), (q7, .inl (cI, 11, .inl (fun _ => 0)))] := hD
  refine lv_aload_n hx hb dX1_init_12 rfl (lv_at hl 0 rfl) ?_
  refine lv_bipush (v := nI 24) hx hb dX1_init_13 rfl ?_
  refine nw_i (N := 24) hx hb (hts (.arrayClass .int) (by decide +kernel)) hK hP hD hS hA (by decide) (by decide) (by rw [hR]; exact Nat.le_of_ble_eq_true rfl) (by rw [hR]; exact Nat.le_of_ble_eq_true rfl) dX1_init_15 (fun q15 H hP hD hS => ?_)
  have hP : va_P D vwCl [(h0, .inr (1, [.ref q7, .null, .int (nI 0), .int (nI 0)])), (q7, .inl (cI, 11, .inl (fun _ => 0))), (q15, .inl (cI, 24, .inl (fun _ => 0)))] H := hP
  have hD : va_D A [(h0, .inr (1, [.ref q7, .null, .int (nI 0), .int (nI 0)])), (q7, .inl (cI, 11, .inl (fun _ => 0))), (q15, .inl (cI, 24, .inl (fun _ => 0)))] := hD
  refine va_putF (D := D) (ci := 1) (v := .ref q15) (ty := (.array .int)) (C := RX1) (T := TX1) (N := 4) hx hb hts inX1_init_X1 tyX1 tyX1_ok nmX1 hown hK hP hD hS 0 rfl rfl 1 (by decide) (hts (.fieldLink RX1 15 "ScrambledLine$Inbox" "goodData" "[I") (by decide +kernel)) (fun _ h9 => h9) rfl hin rfl (by decide +kernel) rfl rfl (Nat.le_of_ble_eq_true rfl) dX1_init_17 (fun H locs hP hD hS => ?_)
  have hP : va_P D vwCl [(h0, .inr (1, [.ref q7, .ref q15, .int (nI 0), .int (nI 0)])), (q7, .inl (cI, 11, .inl (fun _ => 0))), (q15, .inl (cI, 24, .inl (fun _ => 0)))] H := hP
  have hD : va_D A [(h0, .inr (1, [.ref q7, .ref q15, .int (nI 0), .int (nI 0)])), (q7, .inl (cI, 11, .inl (fun _ => 0))), (q15, .inl (cI, 24, .inl (fun _ => 0)))] := hD
  refine lv_aload_n hx hb dX1_init_20 rfl (lv_at hl 0 rfl) ?_
  refine lv_iconst (v := (-1)) hx hb dX1_init_21 rfl ?_
  refine va_put (D := D) (ci := 1) (v := .int (-1)) (ty := .int) (C := RX1) (T := TX1) (N := 4) hx hb hts inX1_init_X1 tyX1 tyX1_ok nmX1 hown hK hP hD hS 0 rfl rfl 2 (by decide) (hts (.fieldLink RX1 18 "ScrambledLine$Inbox" "goodSource" "I") (by decide +kernel)) (fun _ h9 => h9) rfl (by decide +kernel) rfl rfl (Nat.le_of_ble_eq_true rfl) dX1_init_22 (fun H locs hP hD hS => ?_)
  have hP : va_P D vwCl [(h0, .inr (1, [.ref q7, .ref q15, .int (-1), .int (nI 0)])), (q7, .inl (cI, 11, .inl (fun _ => 0))), (q15, .inl (cI, 24, .inl (fun _ => 0)))] H := hP
  have hD : va_D A [(h0, .inr (1, [.ref q7, .ref q15, .int (-1), .int (nI 0)])), (q7, .inl (cI, 11, .inl (fun _ => 0))), (q15, .inl (cI, 24, .inl (fun _ => 0)))] := hD
  refine lv_aload_n hx hb dX1_init_25 rfl (lv_at hl 0 rfl) ?_
  refine lv_iconst (v := (-1)) hx hb dX1_init_26 rfl ?_
  refine va_put (D := D) (ci := 1) (v := .int (-1)) (ty := .int) (C := RX1) (T := TX1) (N := 4) hx hb hts inX1_init_X1 tyX1 tyX1_ok nmX1 hown hK hP hD hS 0 rfl rfl 3 (by decide) (hts (.fieldLink RX1 22 "ScrambledLine$Inbox" "goodLength" "I") (by decide +kernel)) (fun _ h9 => h9) rfl (by decide +kernel) rfl rfl (Nat.le_of_ble_eq_true rfl) dX1_init_27 (fun H locs hP hD hS => ?_)
  have hP : va_P D vwCl [(h0, .inr (1, [.ref q7, .ref q15, .int (-1), .int (-1)])), (q7, .inl (cI, 11, .inl (fun _ => 0))), (q15, .inl (cI, 24, .inl (fun _ => 0)))] H := hP
  have hD : va_D A [(h0, .inr (1, [.ref q7, .ref q15, .int (-1), .int (-1)])), (q7, .inl (cI, 11, .inl (fun _ => 0))), (q15, .inl (cI, 24, .inl (fun _ => 0)))] := hD
  refine W_q hQ ?_
  exact rt_v (q7, q15) hx hb hr hlocks dX1_init_30 hS hP hD trivial

theorem inX1_note_X1 : ∀ w ∈ u_ws RX1 TX1 4, w ∈ wsX1_note := by decide +kernel
set_option maxHeartbeats 4000000 in
set_option maxRecDepth 100000 in
theorem c_X1_note (l : Launch) (D : va_G) (cI cG : ClassId) (tt : Nat × Nat × Nat) (sz : Nat) (h0 : Nat) (q1 : Nat) (q2 : Nat) (fr : Nat) (gs : Int32) (gl : Int32) (cf : Nat → Int32) (gf : Nat → Int32) (bf : Nat → Int32) (k : Nat) (n : Nat) (hk : k < 11) (hn : k = 0 → bf 2 = nI n ∧ n ≤ 24) : Met l yX1_note wsX1_note ({ frames := 1, cells := 0, slots := 0, locals := 30 }) (PC D cI cG tt [.ref h0, .int (nI k), .ref fr] [(h0, .inr (1, [.ref q1, .ref q2, .int gs, .int gl])), (q1, .inl (cI, 11, .inl cf)), (q2, .inl (cI, 24, .inl gf)), (fr, .inl (cI, 40, .inl bf))] sz) (QV (fun (u : Int32 × Int32 × (Nat → Int32)) => match u with | (gs2, gl2, gf2) => (k = 0 → gs2 = bf 1 ∧ gl2 = nI n ∧ gf2 = va_cpy bf gf 3 0 n) ∧ (¬ k = 0 → gs2 = gs ∧ gl2 = gl ∧ gf2 = gf)) (fun (u : Int32 × Int32 × (Nat → Int32)) => match u with | (gs2, gl2, gf2) => [(h0, .inr (1, [.ref q1, .ref q2, .int gs2, .int gl2])), (q1, .inl (cI, 11, .inl (upd cf k (cf k + nI 1)))), (q2, .inl (cI, 24, .inl gf2)), (fr, .inl (cI, 40, .inl bf))]) D (va_A [(h0, .inr (1, [.ref q1, .ref q2, .int gs, .int gl])), (q1, .inl (cI, 11, .inl cf)), (q2, .inl (cI, 24, .inl gf)), (fr, .inl (cI, 40, .inl bf))] sz)) 0 0 (va_A [(h0, .inr (1, [.ref q1, .ref q2, .int gs, .int gl])), (q1, .inl (cI, 11, .inl cf)), (q2, .inl (cI, 24, .inl gf)), (fr, .inl (cI, 40, .inl bf))] sz) := by
  refine ct_of (y := yX1_note) (cc := cX1_note) (maxL := 3) (ret := none) (Qf := QV (fun (u : Int32 × Int32 × (Nat → Int32)) => match u with | (gs2, gl2, gf2) => (k = 0 → gs2 = bf 1 ∧ gl2 = nI n ∧ gf2 = va_cpy bf gf 3 0 n) ∧ (¬ k = 0 → gs2 = gs ∧ gl2 = gl ∧ gf2 = gf)) (fun (u : Int32 × Int32 × (Nat → Int32)) => match u with | (gs2, gl2, gf2) => [(h0, .inr (1, [.ref q1, .ref q2, .int gs2, .int gl2])), (q1, .inl (cI, 11, .inl (upd cf k (cf k + nI 1)))), (q2, .inl (cI, 24, .inl gf2)), (fr, .inl (cI, 40, .inl bf))]) D) (by decide) rfl ?_
  intro p e s m args below meth c A Q R H locs hR hQ hx hb hml hr hts hown hlocks hin hP hD hE hT hA hS
  have hK := hE.1
  have hl := lv_entry ([.ref h0, .int (nI k), .ref fr]) (n := 3) (Nat.le_of_ble_eq_true rfl)
  rw [lg_entry_eq]
  generalize (lg_sl ([.ref h0, .int (nI k), .ref fr]) ++ List.replicate (3 - (lg_sl ([.ref h0, .int (nI k), .ref fr])).length) Slot.unset).toArray = ls at hl ⊢
  have hl : lv_has ls 3 [(0, .ref h0), (1, .int (nI k)), (2, .ref fr)] := hl
  refine lv_aload_n hx hb dX1_note_0 rfl (lv_at hl 0 rfl) ?_
  refine va_get (D := D) (ci := 1) (v := .ref q1) (C := RX1) (T := TX1) (N := 4) hx hb hts inX1_note_X1 hown hK hP 0 rfl rfl 0 (by decide) (hts (.fieldLink RX1 9 "ScrambledLine$Inbox" "counts" "[I") (by decide +kernel)) (fun _ h9 => h9) rfl dX1_note_1 ?_
  refine lv_iload_n hx hb dX1_note_4 rfl (lv_at hl 1 rfl) ?_
  refine lv_dup2_11 hx hb dX1_note_5 rfl rfl ?_
  refine gl_i hx hb hK hP 1 rfl (i := k) (by omega) (by first | decide | omega) dX1_note_6 ?_
  refine lv_iconst (v := nI 1) hx hb dX1_note_7 rfl ?_
  refine lv_iadd hx hb dX1_note_8 ?_
  refine gs_i hx hb hK hP hD hS 1 rfl (i := k) (x := (cf k) + (nI 1)) (by omega) (by first | decide | omega) dX1_note_9 (fun H locs hP hD hS => ?_)
  have hP : va_P D vwCl [(h0, .inr (1, [.ref q1, .ref q2, .int gs, .int gl])), (q1, .inl (cI, 11, .inl (upd cf k ((cf k) + (nI 1))))), (q2, .inl (cI, 24, .inl gf)), (fr, .inl (cI, 40, .inl bf))] H := hP
  have hD : va_D A [(h0, .inr (1, [.ref q1, .ref q2, .int gs, .int gl])), (q1, .inl (cI, 11, .inl (upd cf k ((cf k) + (nI 1))))), (q2, .inl (cI, 24, .inl gf)), (fr, .inl (cI, 40, .inl bf))] := hD
  refine lv_iload_n hx hb dX1_note_10 rfl (lv_at hl 1 rfl) ?_
  refine lv_if_ne (tgt := 47) hx hb dX1_note_11 (by decide) (fun c11 => ?_) (fun c11 => ?_)
  · skip
    have k11 : ¬ k = 0 := fun zq => c11 ((nI_eq (a := k) (b := 0) (by omega) (by omega)).mpr zq)
    refine W_q hQ ?_
    exact rt_v (gs, gl, gf) hx hb hr hlocks dX1_note_47 hS hP hD (⟨fun q => absurd q k11, fun _ => ⟨rfl, rfl, rfl⟩⟩)
  · skip
    have k11 : k = 0 := (nI_eq (a := k) (b := 0) (by omega) (by omega)).mp c11
    obtain ⟨hn1, hn2⟩ := hn k11
    refine lv_aload_n hx hb dX1_note_14 rfl (lv_at hl 0 rfl) ?_
    refine lv_aload_n hx hb dX1_note_15 rfl (lv_at hl 2 rfl) ?_
    refine lv_iconst (v := nI 1) hx hb dX1_note_16 rfl ?_
    refine gl_i hx hb hK hP 3 rfl (i := 1) (by omega) (by first | decide | omega) dX1_note_17 ?_
    refine va_put (D := D) (ci := 1) (v := .int (bf 1)) (ty := .int) (C := RX1) (T := TX1) (N := 4) hx hb hts inX1_note_X1 tyX1 tyX1_ok nmX1 hown hK hP hD hS 0 rfl rfl 2 (by decide) (hts (.fieldLink RX1 18 "ScrambledLine$Inbox" "goodSource" "I") (by decide +kernel)) (fun _ h9 => h9) rfl (by decide +kernel) rfl rfl (Nat.le_of_ble_eq_true rfl) dX1_note_18 (fun H locs hP hD hS => ?_)
    have hP : va_P D vwCl [(h0, .inr (1, [.ref q1, .ref q2, .int (bf 1), .int gl])), (q1, .inl (cI, 11, .inl (upd cf k ((cf k) + (nI 1))))), (q2, .inl (cI, 24, .inl gf)), (fr, .inl (cI, 40, .inl bf))] H := hP
    have hD : va_D A [(h0, .inr (1, [.ref q1, .ref q2, .int (bf 1), .int gl])), (q1, .inl (cI, 11, .inl (upd cf k ((cf k) + (nI 1))))), (q2, .inl (cI, 24, .inl gf)), (fr, .inl (cI, 40, .inl bf))] := hD
    refine lv_aload_n hx hb dX1_note_21 rfl (lv_at hl 0 rfl) ?_
    refine lv_aload_n hx hb dX1_note_22 rfl (lv_at hl 2 rfl) ?_
    refine lv_iconst (v := nI 2) hx hb dX1_note_23 rfl ?_
    refine gl_i hx hb hK hP 3 rfl (i := 2) (by omega) (by first | decide | omega) dX1_note_24 ?_
    refine lv_to (y := nI n) (hn1) ?_
    refine lv_bipush (v := nI 24) hx hb dX1_note_25 rfl ?_
    refine va_mmin hx hb (by rw [hml]; exact hl.1.symm) hown (hts (.methodLink RX1 25 Lib.Math.min.name) (by decide +kernel)) (hts (.static Lib.Math.min.name) (by decide +kernel)) (hts (.initialized "java/lang/Math") (by decide +kernel)) (hts (.code Lib.Math.min.name Lib.Math.min.code 2 (some .int)) (by decide +kernel)) (by rw [hR]; exact Nat.le_of_ble_eq_true rfl) (by rw [hR]; exact Nat.le_of_ble_eq_true rfl) (by rw [hR]; exact Nat.le_of_ble_eq_true rfl) (by rw [hR]; exact Nat.le_of_ble_eq_true rfl) dX1_note_27 ?_
    refine lv_to (y := nI n) ((mn_n (by omega) (by omega)).trans (congrArg nI (Nat.min_eq_left hn2))) ?_
    refine va_put (D := D) (ci := 1) (v := .int (nI n)) (ty := .int) (C := RX1) (T := TX1) (N := 4) hx hb hts inX1_note_X1 tyX1 tyX1_ok nmX1 hown hK hP hD hS 0 rfl rfl 3 (by decide) (hts (.fieldLink RX1 22 "ScrambledLine$Inbox" "goodLength" "I") (by decide +kernel)) (fun _ h9 => h9) rfl (by decide +kernel) rfl rfl (Nat.le_of_ble_eq_true rfl) dX1_note_30 (fun H locs hP hD hS => ?_)
    have hP : va_P D vwCl [(h0, .inr (1, [.ref q1, .ref q2, .int (bf 1), .int (nI n)])), (q1, .inl (cI, 11, .inl (upd cf k ((cf k) + (nI 1))))), (q2, .inl (cI, 24, .inl gf)), (fr, .inl (cI, 40, .inl bf))] H := hP
    have hD : va_D A [(h0, .inr (1, [.ref q1, .ref q2, .int (bf 1), .int (nI n)])), (q1, .inl (cI, 11, .inl (upd cf k ((cf k) + (nI 1))))), (q2, .inl (cI, 24, .inl gf)), (fr, .inl (cI, 40, .inl bf))] := hD
    refine lv_aload_n hx hb dX1_note_33 rfl (lv_at hl 2 rfl) ?_
    refine lv_iconst (v := nI 3) hx hb dX1_note_34 rfl ?_
    refine lv_aload_n hx hb dX1_note_35 rfl (lv_at hl 0 rfl) ?_
    refine va_get (D := D) (ci := 1) (v := .ref q2) (C := RX1) (T := TX1) (N := 4) hx hb hts inX1_note_X1 hown hK hP 0 rfl rfl 1 (by decide) (hts (.fieldLink RX1 15 "ScrambledLine$Inbox" "goodData" "[I") (by decide +kernel)) (fun _ h9 => h9) rfl dX1_note_36 ?_
    refine lv_iconst (v := nI 0) hx hb dX1_note_39 rfl ?_
    refine lv_aload_n hx hb dX1_note_40 rfl (lv_at hl 0 rfl) ?_
    refine va_get (D := D) (ci := 1) (v := .int (nI n)) (C := RX1) (T := TX1) (N := 4) hx hb hts inX1_note_X1 hown hK hP 0 rfl rfl 3 (by decide) (hts (.fieldLink RX1 22 "ScrambledLine$Inbox" "goodLength" "I") (by decide +kernel)) (fun _ h9 => h9) rfl dX1_note_41 ?_
    refine cp_i hx hb (by rw [hml]; exact hl.1.symm) hown (hts (.methodLink RX1 31 arraycopyName) (by decide +kernel)) (hts (.native arraycopyName) (by decide +kernel)) (hts (.static arraycopyName) (by decide +kernel)) (hts (.initialized "java/lang/System") (by decide +kernel)) hK hP hD hS 3 2 rfl rfl (sp := 3) (dp := 0) (n := n) (by omega) (by omega) (by decide) (by decide) (by rw [hR]; exact Nat.le_of_ble_eq_true rfl) (by rw [hR]; exact Nat.le_of_ble_eq_true rfl) dX1_note_44 (fun H locs hP hD hS => ?_)
    have hP : va_P D vwCl [(h0, .inr (1, [.ref q1, .ref q2, .int (bf 1), .int (nI n)])), (q1, .inl (cI, 11, .inl (upd cf k ((cf k) + (nI 1))))), (q2, .inl (cI, 24, .inl (va_cpy bf gf 3 0 n))), (fr, .inl (cI, 40, .inl bf))] H := hP
    have hD : va_D A [(h0, .inr (1, [.ref q1, .ref q2, .int (bf 1), .int (nI n)])), (q1, .inl (cI, 11, .inl (upd cf k ((cf k) + (nI 1))))), (q2, .inl (cI, 24, .inl (va_cpy bf gf 3 0 n))), (fr, .inl (cI, 40, .inl bf))] := hD
    refine W_q hQ ?_
    exact rt_v (bf 1, nI n, va_cpy bf gf 3 0 n) hx hb hr hlocks dX1_note_47 hS hP hD (⟨fun _ => ⟨rfl, rfl, rfl⟩, fun q => absurd k11 q⟩)

theorem inX1_goodByte_X1 : ∀ w ∈ u_ws RX1 TX1 4, w ∈ wsX1_goodByte := by decide +kernel
set_option maxHeartbeats 4000000 in
set_option maxRecDepth 100000 in
theorem c_X1_goodByte (l : Launch) (D : va_G) (cI cG : ClassId) (tt : Nat × Nat × Nat) (sz : Nat) (h0 : Nat) (q1 : Nat) (q2 : Nat) (gs : Int32) (any : Bool) (n : Nat) (gf : Nat → Int32) (i : Int32) (hn : n ≤ 24) : Met l yX1_goodByte wsX1_goodByte ({ frames := 0, cells := 0, slots := 0, locals := 0 }) (PC D cI cG tt [.ref h0, .int i] [(h0, .inr (1, [.ref q1, .ref q2, .int gs, .int (glI any n)])), (q2, .inl (cI, 24, .inl gf))] sz) (QI (fun (r : Int32) (u : Unit) => r = gbS any n gf i) (fun (u : Unit) => [(h0, .inr (1, [.ref q1, .ref q2, .int gs, .int (glI any n)])), (q2, .inl (cI, 24, .inl gf))]) D (va_A [(h0, .inr (1, [.ref q1, .ref q2, .int gs, .int (glI any n)])), (q2, .inl (cI, 24, .inl gf))] sz)) 0 0 (va_A [(h0, .inr (1, [.ref q1, .ref q2, .int gs, .int (glI any n)])), (q2, .inl (cI, 24, .inl gf))] sz) := by
  refine ct_of (y := yX1_goodByte) (cc := cX1_goodByte) (maxL := 2) (ret := (some .int)) (Qf := QI (fun (r : Int32) (u : Unit) => r = gbS any n gf i) (fun (u : Unit) => [(h0, .inr (1, [.ref q1, .ref q2, .int gs, .int (glI any n)])), (q2, .inl (cI, 24, .inl gf))]) D) (by decide) rfl ?_
  intro p e s m args below meth c A Q R H locs hR hQ hx hb hml hr hts hown hlocks hin hP hD hE hT hA hS
  have hK := hE.1
  have hl := lv_entry ([.ref h0, .int i]) (n := 2) (Nat.le_of_ble_eq_true rfl)
  rw [lg_entry_eq]
  generalize (lg_sl ([.ref h0, .int i]) ++ List.replicate (2 - (lg_sl ([.ref h0, .int i])).length) Slot.unset).toArray = ls at hl ⊢
  have hl : lv_has ls 2 [(0, .ref h0), (1, .int i)] := hl
  refine lv_iload_n hx hb dX1_goodByte_0 rfl (lv_at hl 1 rfl) ?_
  refine lv_if_lt (tgt := 12) hx hb dX1_goodByte_1 (by decide) (fun c1 => ?_) (fun c1 => ?_)
  · skip
    have hh : -1 = gbS any n gf i := gbS_1 c1
    refine lv_iconst (v := (-1)) hx hb dX1_goodByte_12 rfl ?_
    refine lv_goto (tgt := 22) hx hb dX1_goodByte_13 (by decide) ?_
    refine W_q hQ ?_
    exact rt_i () hx hb hr hlocks dX1_goodByte_22 hS hP hD hh
  · skip
    
    refine lv_iload_n hx hb dX1_goodByte_4 rfl (lv_at hl 1 rfl) ?_
    refine lv_aload_n hx hb dX1_goodByte_5 rfl (lv_at hl 0 rfl) ?_
    refine va_get (D := D) (ci := 1) (v := .int (glI any n)) (C := RX1) (T := TX1) (N := 4) hx hb hts inX1_goodByte_X1 hown hK hP 0 rfl rfl 3 (by decide) (hts (.fieldLink RX1 22 "ScrambledLine$Inbox" "goodLength" "I") (by decide +kernel)) (fun _ h9 => h9) rfl dX1_goodByte_6 ?_
    refine lv_icmp_lt (tgt := 16) hx hb dX1_goodByte_9 (by decide) (fun c9 => ?_) (fun c9 => ?_)
    · skip
      obtain ⟨j, hj, rfl, hany⟩ := gbS_3 hn c1 c9
      subst hany
      refine lv_aload_n hx hb dX1_goodByte_16 rfl (lv_at hl 0 rfl) ?_
      refine va_get (D := D) (ci := 1) (v := .ref q2) (C := RX1) (T := TX1) (N := 4) hx hb hts inX1_goodByte_X1 hown hK hP 0 rfl rfl 1 (by decide) (hts (.fieldLink RX1 15 "ScrambledLine$Inbox" "goodData" "[I") (by decide +kernel)) (fun _ h9 => h9) rfl dX1_goodByte_17 ?_
      refine lv_iload_n hx hb dX1_goodByte_20 rfl (lv_at hl 1 rfl) ?_
      refine gl_i hx hb hK hP 1 rfl (i := j) (by omega) (by first | decide | omega) dX1_goodByte_21 ?_
      refine W_q hQ ?_
      exact rt_i () hx hb hr hlocks dX1_goodByte_22 hS hP hD (gbS_4 hn hj)
    · skip
      have hh : -1 = gbS any n gf i := gbS_2 c9
      refine lv_iconst (v := (-1)) hx hb dX1_goodByte_12 rfl ?_
      refine lv_goto (tgt := 22) hx hb dX1_goodByte_13 (by decide) ?_
      refine W_q hQ ?_
      exact rt_i () hx hb hr hlocks dX1_goodByte_22 hS hP hD hh

theorem inX3_give_X3 : ∀ w ∈ u_ws RX3 TX3 6, w ∈ wsX3_give := by decide +kernel
set_option maxHeartbeats 4000000 in
set_option maxRecDepth 100000 in
theorem c_X3_give_full (l : Launch) (D : va_G) (cI cG : ClassId) (tt : Nat × Nat × Nat) (sz : Nat) (h0 : Nat) (ga : Nat) (fa : Nat) (src : Nat) (gl : Nat) (ff : Nat) (fc : Nat) (gf : Nat → Int32) (x : Int32) (hg : gl = 24) : Met l yX3_give wsX3_give ({ frames := 0, cells := 0, slots := 0, locals := 0 }) (PC D cI cG tt [.ref h0, .int x] [(h0, .inr (3, [.int (nI src), .ref ga, .int (nI gl), .ref fa, .int (nI ff), .int (nI fc)])), (ga, .inl (cI, 24, .inl gf))] sz) (QI (fun (r : Int32) (u : Unit) => r = (-2)) (fun (u : Unit) => [(h0, .inr (3, [.int (nI src), .ref ga, .int (nI gl), .ref fa, .int (nI ff), .int (nI fc)])), (ga, .inl (cI, 24, .inl gf))]) D (va_A [(h0, .inr (3, [.int (nI src), .ref ga, .int (nI gl), .ref fa, .int (nI ff), .int (nI fc)])), (ga, .inl (cI, 24, .inl gf))] sz)) 0 0 (va_A [(h0, .inr (3, [.int (nI src), .ref ga, .int (nI gl), .ref fa, .int (nI ff), .int (nI fc)])), (ga, .inl (cI, 24, .inl gf))] sz) := by
  refine ct_of (y := yX3_give) (cc := cX3_give) (maxL := 2) (ret := (some .int)) (Qf := QI (fun (r : Int32) (u : Unit) => r = (-2)) (fun (u : Unit) => [(h0, .inr (3, [.int (nI src), .ref ga, .int (nI gl), .ref fa, .int (nI ff), .int (nI fc)])), (ga, .inl (cI, 24, .inl gf))]) D) (by decide) rfl ?_
  intro p e s m args below meth c A Q R H locs hR hQ hx hb hml hr hts hown hlocks hin hP hD hE hT hA hS
  have hK := hE.1
  have hl := lv_entry ([.ref h0, .int x]) (n := 2) (Nat.le_of_ble_eq_true rfl)
  rw [lg_entry_eq]
  generalize (lg_sl ([.ref h0, .int x]) ++ List.replicate (2 - (lg_sl ([.ref h0, .int x])).length) Slot.unset).toArray = ls at hl ⊢
  have hl : lv_has ls 2 [(0, .ref h0), (1, .int x)] := hl
  refine lv_aload_n hx hb dX3_give_0 rfl (lv_at hl 0 rfl) ?_
  refine va_get (D := D) (ci := 3) (v := .int (nI gl)) (C := RX3) (T := TX3) (N := 6) hx hb hts inX3_give_X3 hown hK hP 0 rfl rfl 2 (by decide) (hts (.fieldLink RX3 15 "ScrambledLine$Outbox" "givenCount" "I") (by decide +kernel)) (fun _ h9 => h9) rfl dX3_give_1 ?_
  refine lv_bipush (v := nI 24) hx hb dX3_give_4 rfl ?_
  refine lv_icmp_lt (tgt := 12) hx hb dX3_give_6 (by decide) (fun c6 => ?_) (fun c6 => ?_)
  · skip
    have k6 : gl < 24 := (nI_ltI (a := gl) (b := 24) (by omega) (by omega)).mp c6
    exact False.elim (by omega)
  · skip
    have k6 : ¬ gl < 24 := fun zq => c6 ((nI_ltI (a := gl) (b := 24) (by omega) (by omega)).mpr zq)
    refine lv_bipush (v := (-2)) hx hb dX3_give_9 rfl ?_
    refine W_q hQ ?_
    exact rt_i () hx hb hr hlocks dX3_give_11 hS hP hD rfl

set_option maxHeartbeats 4000000 in
set_option maxRecDepth 100000 in
theorem c_X3_give (l : Launch) (D : va_G) (cI cG : ClassId) (tt : Nat × Nat × Nat) (sz : Nat) (h0 : Nat) (ga : Nat) (fa : Nat) (src : Nat) (gl : Nat) (ff : Nat) (fc : Nat) (gf : Nat → Int32) (x : Int32) (hg : gl < 24) : Met l yX3_give wsX3_give ({ frames := 0, cells := 0, slots := 0, locals := 0 }) (PC D cI cG tt [.ref h0, .int x] [(h0, .inr (3, [.int (nI src), .ref ga, .int (nI gl), .ref fa, .int (nI ff), .int (nI fc)])), (ga, .inl (cI, 24, .inl gf))] sz) (QI (fun (r : Int32) (u : Unit) => r = nI (gl + 1)) (fun (u : Unit) => [(h0, .inr (3, [.int (nI src), .ref ga, .int (nI (gl + 1)), .ref fa, .int (nI ff), .int (nI fc)])), (ga, .inl (cI, 24, .inl (upd gf gl x)))]) D (va_A [(h0, .inr (3, [.int (nI src), .ref ga, .int (nI gl), .ref fa, .int (nI ff), .int (nI fc)])), (ga, .inl (cI, 24, .inl gf))] sz)) 0 0 (va_A [(h0, .inr (3, [.int (nI src), .ref ga, .int (nI gl), .ref fa, .int (nI ff), .int (nI fc)])), (ga, .inl (cI, 24, .inl gf))] sz) := by
  refine ct_of (y := yX3_give) (cc := cX3_give) (maxL := 2) (ret := (some .int)) (Qf := QI (fun (r : Int32) (u : Unit) => r = nI (gl + 1)) (fun (u : Unit) => [(h0, .inr (3, [.int (nI src), .ref ga, .int (nI (gl + 1)), .ref fa, .int (nI ff), .int (nI fc)])), (ga, .inl (cI, 24, .inl (upd gf gl x)))]) D) (by decide) rfl ?_
  intro p e s m args below meth c A Q R H locs hR hQ hx hb hml hr hts hown hlocks hin hP hD hE hT hA hS
  have hK := hE.1
  have hl := lv_entry ([.ref h0, .int x]) (n := 2) (Nat.le_of_ble_eq_true rfl)
  rw [lg_entry_eq]
  generalize (lg_sl ([.ref h0, .int x]) ++ List.replicate (2 - (lg_sl ([.ref h0, .int x])).length) Slot.unset).toArray = ls at hl ⊢
  have hl : lv_has ls 2 [(0, .ref h0), (1, .int x)] := hl
  refine lv_aload_n hx hb dX3_give_0 rfl (lv_at hl 0 rfl) ?_
  refine va_get (D := D) (ci := 3) (v := .int (nI gl)) (C := RX3) (T := TX3) (N := 6) hx hb hts inX3_give_X3 hown hK hP 0 rfl rfl 2 (by decide) (hts (.fieldLink RX3 15 "ScrambledLine$Outbox" "givenCount" "I") (by decide +kernel)) (fun _ h9 => h9) rfl dX3_give_1 ?_
  refine lv_bipush (v := nI 24) hx hb dX3_give_4 rfl ?_
  refine lv_icmp_lt (tgt := 12) hx hb dX3_give_6 (by decide) (fun c6 => ?_) (fun c6 => ?_)
  · skip
    have k6 : gl < 24 := (nI_ltI (a := gl) (b := 24) (by omega) (by omega)).mp c6
    refine lv_aload_n hx hb dX3_give_12 rfl (lv_at hl 0 rfl) ?_
    refine va_get (D := D) (ci := 3) (v := .ref ga) (C := RX3) (T := TX3) (N := 6) hx hb hts inX3_give_X3 hown hK hP 0 rfl rfl 1 (by decide) (hts (.fieldLink RX3 9 "ScrambledLine$Outbox" "given" "[I") (by decide +kernel)) (fun _ h9 => h9) rfl dX3_give_13 ?_
    refine lv_aload_n hx hb dX3_give_16 rfl (lv_at hl 0 rfl) ?_
    refine va_get (D := D) (ci := 3) (v := .int (nI gl)) (C := RX3) (T := TX3) (N := 6) hx hb hts inX3_give_X3 hown hK hP 0 rfl rfl 2 (by decide) (hts (.fieldLink RX3 15 "ScrambledLine$Outbox" "givenCount" "I") (by decide +kernel)) (fun _ h9 => h9) rfl dX3_give_17 ?_
    refine lv_iload_n hx hb dX3_give_20 rfl (lv_at hl 1 rfl) ?_
    refine gs_i hx hb hK hP hD hS 1 rfl (i := gl) (x := x) (by omega) (by first | decide | omega) dX3_give_21 (fun H locs hP hD hS => ?_)
    have hP : va_P D vwCl [(h0, .inr (3, [.int (nI src), .ref ga, .int (nI gl), .ref fa, .int (nI ff), .int (nI fc)])), (ga, .inl (cI, 24, .inl (upd gf gl x)))] H := hP
    have hD : va_D A [(h0, .inr (3, [.int (nI src), .ref ga, .int (nI gl), .ref fa, .int (nI ff), .int (nI fc)])), (ga, .inl (cI, 24, .inl (upd gf gl x)))] := hD
    refine lv_aload_n hx hb dX3_give_22 rfl (lv_at hl 0 rfl) ?_
    refine lv_dup hx hb dX3_give_23 rfl ?_
    refine va_get (D := D) (ci := 3) (v := .int (nI gl)) (C := RX3) (T := TX3) (N := 6) hx hb hts inX3_give_X3 hown hK hP 0 rfl rfl 2 (by decide) (hts (.fieldLink RX3 15 "ScrambledLine$Outbox" "givenCount" "I") (by decide +kernel)) (fun _ h9 => h9) rfl dX3_give_24 ?_
    refine lv_iconst (v := nI 1) hx hb dX3_give_27 rfl ?_
    refine lv_iadd hx hb dX3_give_28 ?_
    refine lv_to (y := nI (gl + 1)) (nI_add gl 1) ?_
    refine va_put (D := D) (ci := 3) (v := .int (nI (gl + 1))) (ty := .int) (C := RX3) (T := TX3) (N := 6) hx hb hts inX3_give_X3 tyX3 tyX3_ok nmX3 hown hK hP hD hS 0 rfl rfl 2 (by decide) (hts (.fieldLink RX3 15 "ScrambledLine$Outbox" "givenCount" "I") (by decide +kernel)) (fun _ h9 => h9) rfl (by decide +kernel) rfl rfl (Nat.le_of_ble_eq_true rfl) dX3_give_29 (fun H locs hP hD hS => ?_)
    have hP : va_P D vwCl [(h0, .inr (3, [.int (nI src), .ref ga, .int (nI (gl + 1)), .ref fa, .int (nI ff), .int (nI fc)])), (ga, .inl (cI, 24, .inl (upd gf gl x)))] H := hP
    have hD : va_D A [(h0, .inr (3, [.int (nI src), .ref ga, .int (nI (gl + 1)), .ref fa, .int (nI ff), .int (nI fc)])), (ga, .inl (cI, 24, .inl (upd gf gl x)))] := hD
    refine lv_aload_n hx hb dX3_give_32 rfl (lv_at hl 0 rfl) ?_
    refine va_get (D := D) (ci := 3) (v := .int (nI (gl + 1))) (C := RX3) (T := TX3) (N := 6) hx hb hts inX3_give_X3 hown hK hP 0 rfl rfl 2 (by decide) (hts (.fieldLink RX3 15 "ScrambledLine$Outbox" "givenCount" "I") (by decide +kernel)) (fun _ h9 => h9) rfl dX3_give_33 ?_
    refine W_q hQ ?_
    exact rt_i () hx hb hr hlocks dX3_give_36 hS hP hD rfl
  · skip
    have k6 : ¬ gl < 24 := fun zq => c6 ((nI_ltI (a := gl) (b := 24) (by omega) (by omega)).mpr zq)
    exact False.elim (by omega)

theorem inX3_fillFrame_X3 : ∀ w ∈ u_ws RX3 TX3 6, w ∈ wsX3_fillFrame := by decide +kernel
set_option maxHeartbeats 4000000 in
set_option maxRecDepth 100000 in
theorem c_X3_fillFrame (l : Launch) (D : va_G) (cI cG : ClassId) (tt : Nat × Nat × Nat) (sz : Nat) (h0 : Nat) (ga : Nat) (fa : Nat) (src : Nat) (gl : Nat) (ff : Nat) (fc : Nat) (gf : Nat → Int32) (row : Nat) (rf : Nat → Int32) (t : Nat) (gd : Nat → Nat) (hg : gl ≤ 24) (hgd : ∀ j, j < gl → gf j = nI (gd j) ∧ gd j < 256) : Met l yX3_fillFrame wsX3_fillFrame ({ frames := 2, cells := 0, slots := 0, locals := 46 }) (PC D cI cG tt [.ref h0, .ref row, .int (nI t)] [(h0, .inr (3, [.int (nI src), .ref ga, .int (nI gl), .ref fa, .int (nI ff), .int (nI fc)])), (ga, .inl (cI, 24, .inl gf)), (row, .inl (cI, 31, .inl rf))] sz) (QV (fun (u : (Nat → Int32)) => match u with | rf2 => (∀ i, i < fsz gl + 4 → rf2 i = nI (fb src t gl gd i))) (fun (u : (Nat → Int32)) => match u with | rf2 => [(h0, .inr (3, [.int (nI src), .ref ga, .int (nI gl), .ref fa, .int (nI ff), .int (nI fc)])), (ga, .inl (cI, 24, .inl gf)), (row, .inl (cI, 31, .inl rf2))]) D (va_A [(h0, .inr (3, [.int (nI src), .ref ga, .int (nI gl), .ref fa, .int (nI ff), .int (nI fc)])), (ga, .inl (cI, 24, .inl gf)), (row, .inl (cI, 31, .inl rf))] sz)) 0 0 (va_A [(h0, .inr (3, [.int (nI src), .ref ga, .int (nI gl), .ref fa, .int (nI ff), .int (nI fc)])), (ga, .inl (cI, 24, .inl gf)), (row, .inl (cI, 31, .inl rf))] sz) := by
  refine ct_of (y := yX3_fillFrame) (cc := cX3_fillFrame) (maxL := 6) (ret := none) (Qf := QV (fun (u : (Nat → Int32)) => match u with | rf2 => (∀ i, i < fsz gl + 4 → rf2 i = nI (fb src t gl gd i))) (fun (u : (Nat → Int32)) => match u with | rf2 => [(h0, .inr (3, [.int (nI src), .ref ga, .int (nI gl), .ref fa, .int (nI ff), .int (nI fc)])), (ga, .inl (cI, 24, .inl gf)), (row, .inl (cI, 31, .inl rf2))]) D) (by decide) rfl ?_
  intro p e s m args below meth c A Q R H locs hR hQ hx hb hml hr hts hown hlocks hin hP hD hE hT hA hS
  have hK := hE.1
  have hl := lv_entry ([.ref h0, .ref row, .int (nI t)]) (n := 6) (Nat.le_of_ble_eq_true rfl)
  rw [lg_entry_eq]
  generalize (lg_sl ([.ref h0, .ref row, .int (nI t)]) ++ List.replicate (6 - (lg_sl ([.ref h0, .ref row, .int (nI t)])).length) Slot.unset).toArray = ls at hl ⊢
  have hl : lv_has ls 6 [(0, .ref h0), (1, .ref row), (2, .int (nI t))] := hl
  refine lv_aload_n hx hb dX3_fillFrame_0 rfl (lv_at hl 0 rfl) ?_
  have hfz : fsz gl ≤ 27 ∧ 3 + gl ≤ fsz gl := by unfold fsz; omega
  refine va_get (D := D) (ci := 3) (v := .int (nI gl)) (C := RX3) (T := TX3) (N := 6) hx hb hts inX3_fillFrame_X3 hown hK hP 0 rfl rfl 2 (by decide) (hts (.fieldLink RX3 15 "ScrambledLine$Outbox" "givenCount" "I") (by decide +kernel)) (fun _ h9 => h9) rfl dX3_fillFrame_1 ?_
  refine ca_i (wr := [(h0, .inr (3, [.int (nI src), .ref ga, .int (nI gl), .ref fa, .int (nI ff), .int (nI fc)])), (ga, .inl (cI, 24, .inl gf)), (row, .inl (cI, 31, .inl rf))]) (ru_SN (As := [.int (nI gl)]) (rest := []) ⟨hx, hb, hml, hown, hts⟩ (c_X7_frameSize l D cI cG tt H.size gl (by omega)) ⟨va_cnB 1 hts gX3_fillFrame_X7_frameSize_n37 rfl rfl rfl (hE.2.1.mX3_37) (hts (.initialized RX7) (by decide +kernel)) (by decide +kernel) ⟨by rw [hR]; exact Nat.le_of_ble_eq_true rfl, by rw [hR]; exact Nat.le_of_ble_eq_true rfl⟩, hts (.static yX7_frameSize) (by decide +kernel), trivial⟩ hP hD hE hT hS hA [] rfl (by decide) rfl hl.1 rfl (Nat.le_of_ble_eq_true rfl) dX3_fillFrame_4 ⟨by rw [hR]; exact Nat.le_of_ble_eq_true rfl, by rw [hR]; exact Nat.le_of_ble_eq_true rfl⟩) hP hD hS hA [] [0, 1, 2] rfl rfl (by decide) (by decide) (fun r4 u H locs hw hP hD hS => ?_)
  obtain rfl := hw
  have hP : va_P D vwCl [(h0, .inr (3, [.int (nI src), .ref ga, .int (nI gl), .ref fa, .int (nI ff), .int (nI fc)])), (ga, .inl (cI, 24, .inl gf)), (row, .inl (cI, 31, .inl rf))] H := hP
  have hD : va_D A [(h0, .inr (3, [.int (nI src), .ref ga, .int (nI gl), .ref fa, .int (nI ff), .int (nI fc)])), (ga, .inl (cI, 24, .inl gf)), (row, .inl (cI, 31, .inl rf))] := hD
  refine lv_iconst (v := nI 4) hx hb dX3_fillFrame_7 rfl ?_
  refine lv_isub hx hb dX3_fillFrame_8 ?_
  refine lv_to (y := nI (fsz gl)) (pk_sub (a := fsz gl + 4) (b := 4) (by omega)) ?_
  refine lv_istore_n (lv' := [(3, .int (nI (fsz gl))), (0, .ref h0), (1, .ref row), (2, .int (nI t))]) hx hb dX3_fillFrame_9 rfl hl (by decide) rfl (fun ls hl => ?_)
  refine lv_aload_n hx hb dX3_fillFrame_10 rfl (lv_at hl 2 rfl) ?_
  refine lv_iconst (v := nI 0) hx hb dX3_fillFrame_11 rfl ?_
  refine lv_iload_n hx hb dX3_fillFrame_12 rfl (lv_at hl 3 rfl) ?_
  refine gs_i hx hb hK hP hD hS 2 rfl (i := 0) (x := nI t) (by omega) (by first | decide | omega) dX3_fillFrame_13 (fun H locs hP hD hS => ?_)
  have hP : va_P D vwCl [(h0, .inr (3, [.int (nI src), .ref ga, .int (nI gl), .ref fa, .int (nI ff), .int (nI fc)])), (ga, .inl (cI, 24, .inl gf)), (row, .inl (cI, 31, .inl (upd rf 0 (nI t))))] H := hP
  have hD : va_D A [(h0, .inr (3, [.int (nI src), .ref ga, .int (nI gl), .ref fa, .int (nI ff), .int (nI fc)])), (ga, .inl (cI, 24, .inl gf)), (row, .inl (cI, 31, .inl (upd rf 0 (nI t))))] := hD
  refine lv_aload_n hx hb dX3_fillFrame_14 rfl (lv_at hl 2 rfl) ?_
  refine lv_iconst (v := nI 1) hx hb dX3_fillFrame_15 rfl ?_
  refine lv_aload_n hx hb dX3_fillFrame_16 rfl (lv_at hl 1 rfl) ?_
  refine va_get (D := D) (ci := 3) (v := .int (nI src)) (C := RX3) (T := TX3) (N := 6) hx hb hts inX3_fillFrame_X3 hown hK hP 0 rfl rfl 0 (by decide) (hts (.fieldLink RX3 30 "ScrambledLine$Outbox" "address" "I") (by decide +kernel)) (fun _ h9 => h9) rfl dX3_fillFrame_17 ?_
  refine gs_i hx hb hK hP hD hS 2 rfl (i := 1) (x := nI src) (by omega) (by first | decide | omega) dX3_fillFrame_20 (fun H locs hP hD hS => ?_)
  have hP : va_P D vwCl [(h0, .inr (3, [.int (nI src), .ref ga, .int (nI gl), .ref fa, .int (nI ff), .int (nI fc)])), (ga, .inl (cI, 24, .inl gf)), (row, .inl (cI, 31, .inl (upd (upd rf 0 (nI t)) 1 (nI src))))] H := hP
  have hD : va_D A [(h0, .inr (3, [.int (nI src), .ref ga, .int (nI gl), .ref fa, .int (nI ff), .int (nI fc)])), (ga, .inl (cI, 24, .inl gf)), (row, .inl (cI, 31, .inl (upd (upd rf 0 (nI t)) 1 (nI src))))] := hD
  refine lv_aload_n hx hb dX3_fillFrame_21 rfl (lv_at hl 2 rfl) ?_
  refine lv_iconst (v := nI 2) hx hb dX3_fillFrame_22 rfl ?_
  refine lv_aload_n hx hb dX3_fillFrame_23 rfl (lv_at hl 1 rfl) ?_
  refine va_get (D := D) (ci := 3) (v := .int (nI gl)) (C := RX3) (T := TX3) (N := 6) hx hb hts inX3_fillFrame_X3 hown hK hP 0 rfl rfl 2 (by decide) (hts (.fieldLink RX3 15 "ScrambledLine$Outbox" "givenCount" "I") (by decide +kernel)) (fun _ h9 => h9) rfl dX3_fillFrame_24 ?_
  refine gs_i hx hb hK hP hD hS 2 rfl (i := 2) (x := nI gl) (by omega) (by first | decide | omega) dX3_fillFrame_27 (fun H locs hP hD hS => ?_)
  have hP : va_P D vwCl [(h0, .inr (3, [.int (nI src), .ref ga, .int (nI gl), .ref fa, .int (nI ff), .int (nI fc)])), (ga, .inl (cI, 24, .inl gf)), (row, .inl (cI, 31, .inl (upd (upd (upd rf 0 (nI t)) 1 (nI src)) 2 (nI gl))))] H := hP
  have hD : va_D A [(h0, .inr (3, [.int (nI src), .ref ga, .int (nI gl), .ref fa, .int (nI ff), .int (nI fc)])), (ga, .inl (cI, 24, .inl gf)), (row, .inl (cI, 31, .inl (upd (upd (upd rf 0 (nI t)) 1 (nI src)) 2 (nI gl))))] := hD
  refine lv_aload_n hx hb dX3_fillFrame_28 rfl (lv_at hl 1 rfl) ?_
  refine va_get (D := D) (ci := 3) (v := .ref ga) (C := RX3) (T := TX3) (N := 6) hx hb hts inX3_fillFrame_X3 hown hK hP 0 rfl rfl 1 (by decide) (hts (.fieldLink RX3 9 "ScrambledLine$Outbox" "given" "[I") (by decide +kernel)) (fun _ h9 => h9) rfl dX3_fillFrame_29 ?_
  refine lv_iconst (v := nI 0) hx hb dX3_fillFrame_32 rfl ?_
  refine lv_aload_n hx hb dX3_fillFrame_33 rfl (lv_at hl 2 rfl) ?_
  refine lv_iconst (v := nI 3) hx hb dX3_fillFrame_34 rfl ?_
  refine lv_aload_n hx hb dX3_fillFrame_35 rfl (lv_at hl 1 rfl) ?_
  refine va_get (D := D) (ci := 3) (v := .int (nI gl)) (C := RX3) (T := TX3) (N := 6) hx hb hts inX3_fillFrame_X3 hown hK hP 0 rfl rfl 2 (by decide) (hts (.fieldLink RX3 15 "ScrambledLine$Outbox" "givenCount" "I") (by decide +kernel)) (fun _ h9 => h9) rfl dX3_fillFrame_36 ?_
  refine cp_i hx hb (by rw [hml]; exact hl.1.symm) hown (hts (.methodLink RX3 41 arraycopyName) (by decide +kernel)) (hts (.native arraycopyName) (by decide +kernel)) (hts (.static arraycopyName) (by decide +kernel)) (hts (.initialized "java/lang/System") (by decide +kernel)) hK hP hD hS 1 2 rfl rfl (sp := 0) (dp := 3) (n := gl) (by omega) (by omega) (by decide) (by decide) (by rw [hR]; exact Nat.le_of_ble_eq_true rfl) (by rw [hR]; exact Nat.le_of_ble_eq_true rfl) dX3_fillFrame_39 (fun H locs hP hD hS => ?_)
  have hP : va_P D vwCl [(h0, .inr (3, [.int (nI src), .ref ga, .int (nI gl), .ref fa, .int (nI ff), .int (nI fc)])), (ga, .inl (cI, 24, .inl gf)), (row, .inl (cI, 31, .inl (va_cpy gf (upd (upd (upd rf 0 (nI t)) 1 (nI src)) 2 (nI gl)) 0 3 gl)))] H := hP
  have hD : va_D A [(h0, .inr (3, [.int (nI src), .ref ga, .int (nI gl), .ref fa, .int (nI ff), .int (nI fc)])), (ga, .inl (cI, 24, .inl gf)), (row, .inl (cI, 31, .inl (va_cpy gf (upd (upd (upd rf 0 (nI t)) 1 (nI src)) 2 (nI gl)) 0 3 gl)))] := hD
  refine lv_aload_n hx hb dX3_fillFrame_42 rfl (lv_at hl 2 rfl) ?_
  refine lv_iconst (v := nI 3) hx hb dX3_fillFrame_43 rfl ?_
  refine lv_aload_n hx hb dX3_fillFrame_44 rfl (lv_at hl 1 rfl) ?_
  refine va_get (D := D) (ci := 3) (v := .int (nI gl)) (C := RX3) (T := TX3) (N := 6) hx hb hts inX3_fillFrame_X3 hown hK hP 0 rfl rfl 2 (by decide) (hts (.fieldLink RX3 15 "ScrambledLine$Outbox" "givenCount" "I") (by decide +kernel)) (fun _ h9 => h9) rfl dX3_fillFrame_45 ?_
  refine lv_iadd hx hb dX3_fillFrame_48 ?_
  refine lv_to (y := nI (3 + gl)) (nI_add 3 gl) ?_
  refine lv_iload_n hx hb dX3_fillFrame_49 rfl (lv_at hl 0 rfl) ?_
  refine lv_iconst (v := nI 0) hx hb dX3_fillFrame_50 rfl ?_
  refine ca_v (wr := [(h0, .inr (3, [.int (nI src), .ref ga, .int (nI gl), .ref fa, .int (nI ff), .int (nI fc)])), (ga, .inl (cI, 24, .inl gf))]) (ru_S (As := [.ref row, .int (nI (3 + gl)), .int (nI (fsz gl)), .int (nI 0)]) (rest := []) ⟨hx, hb, hml, hown, hts⟩ (c_J7_fill_fda19 l D cI cG tt H.size row 31 (va_cpy gf (upd (upd (upd rf 0 (nI t)) 1 (nI src)) 2 (nI gl)) 0 3 gl) (3 + gl) (fsz gl) (nI 0) (by omega) (by omega) (by omega)) (va_cwS 4 hts gX3_fillFrame_J7_fill_fda19 rfl rfl rfl (by decide +kernel) ⟨by rw [hR]; exact Nat.le_of_ble_eq_true rfl, by rw [hR]; exact Nat.le_of_ble_eq_true rfl⟩) hP hD hE hT hS hA [2] rfl (by decide) rfl hl.1 rfl (Nat.le_of_ble_eq_true rfl) dX3_fillFrame_51 ⟨by rw [hR]; exact Nat.le_of_ble_eq_true rfl, by rw [hR]; exact Nat.le_of_ble_eq_true rfl⟩) hP hD hS hA [2] [0, 1] rfl rfl (by decide) (by decide) (fun u H locs hw hP hD hS => ?_)
  obtain ⟨g_51, rfl⟩ : ∃ z, z = u := ⟨_, rfl⟩
  have hg_51 := hw
  have hP : va_P D vwCl [(h0, .inr (3, [.int (nI src), .ref ga, .int (nI gl), .ref fa, .int (nI ff), .int (nI fc)])), (ga, .inl (cI, 24, .inl gf)), (row, .inl (cI, 31, .inl g_51))] H := hP
  have hD : va_D A [(h0, .inr (3, [.int (nI src), .ref ga, .int (nI gl), .ref fa, .int (nI ff), .int (nI fc)])), (ga, .inl (cI, 24, .inl gf)), (row, .inl (cI, 31, .inl g_51))] := hD
  have hbd : ∀ i, i < fsz gl → g_51 i = nI (bd src t gl gd i) := ff_body hg hgd hg_51
  refine lv_aload_n hx hb dX3_fillFrame_54 rfl (lv_at hl 2 rfl) ?_
  refine lv_iload_n hx hb dX3_fillFrame_55 rfl (lv_at hl 0 rfl) ?_
  refine ca_i (wr := [(h0, .inr (3, [.int (nI src), .ref ga, .int (nI gl), .ref fa, .int (nI ff), .int (nI fc)])), (ga, .inl (cI, 24, .inl gf))]) (ru_SN (As := [.ref row, .int (nI (fsz gl))]) (rest := []) ⟨hx, hb, hml, hown, hts⟩ (c_X7_checkOf l D cI cG tt H.size row 31 g_51 (fsz gl) (by omega) (by omega)) ⟨va_cnB 2 hts gX3_fillFrame_X7_checkOf_n53 rfl rfl rfl (hE.2.1.mX3_53) (hts (.initialized RX7) (by decide +kernel)) (by decide +kernel) ⟨by rw [hR]; exact Nat.le_of_ble_eq_true rfl, by rw [hR]; exact Nat.le_of_ble_eq_true rfl⟩, hts (.static yX7_checkOf) (by decide +kernel), trivial⟩ hP hD hE hT hS hA [2] rfl (by decide) rfl hl.1 rfl (Nat.le_of_ble_eq_true rfl) dX3_fillFrame_56 ⟨by rw [hR]; exact Nat.le_of_ble_eq_true rfl, by rw [hR]; exact Nat.le_of_ble_eq_true rfl⟩) hP hD hS hA [2] [0, 1] rfl rfl (by decide) (by decide) (fun r56 u H locs hw hP hD hS => ?_)
  obtain rfl := hw
  have hP : va_P D vwCl [(h0, .inr (3, [.int (nI src), .ref ga, .int (nI gl), .ref fa, .int (nI ff), .int (nI fc)])), (ga, .inl (cI, 24, .inl gf)), (row, .inl (cI, 31, .inl g_51))] H := hP
  have hD : va_D A [(h0, .inr (3, [.int (nI src), .ref ga, .int (nI gl), .ref fa, .int (nI ff), .int (nI fc)])), (ga, .inl (cI, 24, .inl gf)), (row, .inl (cI, 31, .inl g_51))] := hD
  refine lv_to (y := fcv src t gl gd) (ff_ck hbd) ?_
  refine lv_istore (lv' := [(4, .int (fcv src t gl gd)), (3, .int (nI (fsz gl))), (0, .ref h0), (1, .ref row), (2, .int (nI t))]) hx hb dX3_fillFrame_59 hl (by decide) rfl (fun ls hl => ?_)
  refine lv_iconst (v := nI 0) hx hb dX3_fillFrame_61 rfl ?_
  refine lv_istore (lv' := [(5, .int (nI 0)), (4, .int (fcv src t gl gd)), (3, .int (nI (fsz gl))), (0, .ref h0), (1, .ref row), (2, .int (nI t))]) hx hb dX3_fillFrame_62 hl (by decide) rfl (fun ls hl => ?_)
  have L64 : ∀ (fu64 : Nat), ∀ (i : Nat) (r : Nat → Int32), (i ≤ 4) → (∀ j, j < fsz gl + i → r j = nI (fb src t gl gd j)) → 4 - i < fu64 → ∀ (H : Heap) (locs : List Loc), va_P D vwCl [(h0, .inr (3, [.int (nI src), .ref ga, .int (nI gl), .ref fa, .int (nI ff), .int (nI fc)])), (ga, .inl (cI, 24, .inl gf)), (row, .inl (cI, 31, .inl r))] H → va_D A [(h0, .inr (3, [.int (nI src), .ref ga, .int (nI gl), .ref fa, .int (nI ff), .int (nI fc)])), (ga, .inl (cI, 24, .inl gf)), (row, .inl (cI, 31, .inl r))] → va_S A s.heap H locs → ∀ ls : Array Slot, lv_has ls 6 [(5, .int (nI i)), (4, .int (fcv src t gl gd)), (3, .int (nI (fsz gl))), (0, .ref h0), (1, .ref row), (2, .int (nI t))] → W p l e R s m args below meth c H locs 0 0 Q (F0 m 64 ls []) := by
    intro fu64
    induction fu64 with
    | zero => intro i r hi hrow hm64; exact absurd hm64 (Nat.not_lt_zero _)
    | succ fu64 ih64 =>
      intro i r hi hrow hm64 H locs hP hD hS ls hl
      refine lv_iload hx hb dX3_fillFrame_64 (lv_at hl 0 rfl) ?_
      refine lv_iconst (v := nI 4) hx hb dX3_fillFrame_66 rfl ?_
      refine lv_icmp_ge (tgt := 94) hx hb dX3_fillFrame_67 (by decide) (fun c67 => ?_) (fun c67 => ?_)
      · skip
        have k67 : 4 ≤ i := (nI_leI (a := 4) (b := i) (by omega) (by omega)).mp c67
        refine W_q hQ ?_
        exact rt_v r hx hb hr hlocks dX3_fillFrame_94 hS hP hD (ff_end (show i = 4 by omega) hrow)
      · skip
        have k67 : ¬ 4 ≤ i := fun zq => c67 ((nI_leI (a := 4) (b := i) (by omega) (by omega)).mpr zq)
        refine lv_aload_n hx hb dX3_fillFrame_70 rfl (lv_at hl 4 rfl) ?_
        refine lv_iload_n hx hb dX3_fillFrame_71 rfl (lv_at hl 2 rfl) ?_
        refine lv_iload hx hb dX3_fillFrame_72 (lv_at hl 0 rfl) ?_
        refine lv_iadd hx hb dX3_fillFrame_74 ?_
        refine lv_to (y := nI ((fsz gl) + i)) (nI_add (fsz gl) i) ?_
        refine lv_iload hx hb dX3_fillFrame_75 (lv_at hl 1 rfl) ?_
        refine lv_bipush (v := nI 8) hx hb dX3_fillFrame_77 rfl ?_
        refine lv_iload hx hb dX3_fillFrame_79 (lv_at hl 0 rfl) ?_
        refine lv_imul hx hb dX3_fillFrame_81 ?_
        refine lv_to (y := nI (8 * i)) (pk_mul 8 i) ?_
        refine lv_iushr (v := ((fcv src t gl gd).toUInt32 >>> ((nI (8 * i)).toUInt32 &&& Int32.toUInt32 31)).toInt32) hx hb dX3_fillFrame_82 rfl ?_
        refine lv_sipush (v := nI 255) hx hb dX3_fillFrame_83 rfl ?_
        refine lv_iand hx hb dX3_fillFrame_86 ?_
        refine lv_to (y := nI ((fcv src t gl gd).toBitVec.toNat / 2 ^ (8 * i) % 256)) (ff_sh (by omega)) ?_
        refine gs_i hx hb hK hP hD hS 2 rfl (i := ((fsz gl) + i)) (x := nI ((fcv src t gl gd).toBitVec.toNat / 2 ^ (8 * i) % 256)) (by omega) (by first | decide | omega) dX3_fillFrame_87 (fun H locs hP hD hS => ?_)
        have hP : va_P D vwCl [(h0, .inr (3, [.int (nI src), .ref ga, .int (nI gl), .ref fa, .int (nI ff), .int (nI fc)])), (ga, .inl (cI, 24, .inl gf)), (row, .inl (cI, 31, .inl (upd r ((fsz gl) + i) (nI ((fcv src t gl gd).toBitVec.toNat / 2 ^ (8 * i) % 256)))))] H := hP
        have hD : va_D A [(h0, .inr (3, [.int (nI src), .ref ga, .int (nI gl), .ref fa, .int (nI ff), .int (nI fc)])), (ga, .inl (cI, 24, .inl gf)), (row, .inl (cI, 31, .inl (upd r ((fsz gl) + i) (nI ((fcv src t gl gd).toBitVec.toNat / 2 ^ (8 * i) % 256)))))] := hD
        refine lv_iinc (v := nI (i + 1)) (lv' := [(5, .int (nI (i + 1))), (4, .int (fcv src t gl gd)), (3, .int (nI (fsz gl))), (0, .ref h0), (1, .ref row), (2, .int (nI t))]) hx hb dX3_fillFrame_88 hl (k := 0) rfl (nI_add i 1) (by decide) rfl (fun ls hl => ?_)
        refine lv_goto (tgt := 64) hx hb dX3_fillFrame_91 (by decide) ?_
        exact ih64 (i + 1) (upd r ((fsz gl) + i) (nI ((fcv src t gl gd).toBitVec.toNat / 2 ^ (8 * i) % 256))) (by omega) (ff_s hrow) (by omega) _ _ hP hD hS _ (lv_sub hl [0, 1, 2, 3, 4, 5] rfl)
  exact L64 _ 0 g_51 (Nat.zero_le _) (ff_0 hbd) (Nat.lt_succ_self _) _ _ hP hD hS _ (lv_sub hl [0, 1, 2, 3, 4, 5] rfl)

theorem inX3_enqueue_X3 : ∀ w ∈ u_ws RX3 TX3 6, w ∈ wsX3_enqueue := by decide +kernel
set_option maxHeartbeats 4000000 in
set_option maxRecDepth 100000 in
theorem c_X3_enqueue_full (l : Launch) (D : va_G) (cI cG : ClassId) (tt : Nat × Nat × Nat) (sz : Nat) (h0 : Nat) (ga : Nat) (fa : Nat) (src : Nat) (gl : Nat) (ff : Nat) (fc : Nat) (gf : Nat → Int32) (x : Int32) (hq : fc = 4) : Met l yX3_enqueue wsX3_enqueue ({ frames := 0, cells := 0, slots := 0, locals := 0 }) (PC D cI cG tt [.ref h0, .int x] [(h0, .inr (3, [.int (nI src), .ref ga, .int (nI gl), .ref fa, .int (nI ff), .int (nI fc)]))] sz) (QI (fun (r : Int32) (u : Unit) => r = (-2)) (fun (u : Unit) => [(h0, .inr (3, [.int (nI src), .ref ga, .int (nI gl), .ref fa, .int (nI ff), .int (nI fc)]))]) D (va_A [(h0, .inr (3, [.int (nI src), .ref ga, .int (nI gl), .ref fa, .int (nI ff), .int (nI fc)]))] sz)) 0 0 (va_A [(h0, .inr (3, [.int (nI src), .ref ga, .int (nI gl), .ref fa, .int (nI ff), .int (nI fc)]))] sz) := by
  refine ct_of (y := yX3_enqueue) (cc := cX3_enqueue) (maxL := 2) (ret := (some .int)) (Qf := QI (fun (r : Int32) (u : Unit) => r = (-2)) (fun (u : Unit) => [(h0, .inr (3, [.int (nI src), .ref ga, .int (nI gl), .ref fa, .int (nI ff), .int (nI fc)]))]) D) (by decide) rfl ?_
  intro p e s m args below meth c A Q R H locs hR hQ hx hb hml hr hts hown hlocks hin hP hD hE hT hA hS
  have hK := hE.1
  have hl := lv_entry ([.ref h0, .int x]) (n := 2) (Nat.le_of_ble_eq_true rfl)
  rw [lg_entry_eq]
  generalize (lg_sl ([.ref h0, .int x]) ++ List.replicate (2 - (lg_sl ([.ref h0, .int x])).length) Slot.unset).toArray = ls at hl ⊢
  have hl : lv_has ls 2 [(0, .ref h0), (1, .int x)] := hl
  refine lv_aload_n hx hb dX3_enqueue_0 rfl (lv_at hl 0 rfl) ?_
  refine va_get (D := D) (ci := 3) (v := .int (nI fc)) (C := RX3) (T := TX3) (N := 6) hx hb hts inX3_enqueue_X3 hown hK hP 0 rfl rfl 5 (by decide) (hts (.fieldLink RX3 27 "ScrambledLine$Outbox" "frameCount" "I") (by decide +kernel)) (fun _ h9 => h9) rfl dX3_enqueue_1 ?_
  refine lv_iconst (v := nI 4) hx hb dX3_enqueue_4 rfl ?_
  refine lv_icmp_lt (tgt := 11) hx hb dX3_enqueue_5 (by decide) (fun c5 => ?_) (fun c5 => ?_)
  · skip
    have k5 : fc < 4 := (nI_ltI (a := fc) (b := 4) (by omega) (by omega)).mp c5
    exact False.elim (by omega)
  · skip
    have k5 : ¬ fc < 4 := fun zq => c5 ((nI_ltI (a := fc) (b := 4) (by omega) (by omega)).mpr zq)
    refine lv_bipush (v := (-2)) hx hb dX3_enqueue_8 rfl ?_
    refine W_q hQ ?_
    exact rt_i () hx hb hr hlocks dX3_enqueue_10 hS hP hD rfl

set_option maxHeartbeats 4000000 in
set_option maxRecDepth 100000 in
theorem c_X3_enqueue (l : Launch) (D : va_G) (cI cG : ClassId) (tt : Nat × Nat × Nat) (sz : Nat) (h0 : Nat) (ga : Nat) (fa : Nat) (src : Nat) (gl : Nat) (ff : Nat) (fc : Nat) (gf : Nat → Int32) (r0 : Nat) (r1 : Nat) (r2 : Nat) (r3 : Nat) (Rw : Nat → Nat → Int32) (t : Nat) (gd : Nat → Nat) (q : Nat → Nat) (hq : fc < 4) (hff : ff < 4) (hg : gl ≤ 24) (hgd : ∀ j, j < gl → gf j = nI (gd j) ∧ gd j < 256) (hQ0 : QRel src ff fc q Rw) (hqn : ∀ j, j < fc → q (32 * j + 1) ≤ 24) : Met l yX3_enqueue wsX3_enqueue ({ frames := 3, cells := 0, slots := 0, locals := 71 }) (PC D cI cG tt [.ref h0, .int (nI t)] [(h0, .inr (3, [.int (nI src), .ref ga, .int (nI gl), .ref fa, .int (nI ff), .int (nI fc)])), (ga, .inl (cI, 24, .inl gf)), (fa, .inl (cG, 4, .inr (.inr (.inr (.inr (gq4 r0 r1 r2 r3)))))), (r0, .inl (cI, 31, .inl (Rw 0))), (r1, .inl (cI, 31, .inl (Rw 1))), (r2, .inl (cI, 31, .inl (Rw 2))), (r3, .inl (cI, 31, .inl (Rw 3)))] sz) (QI (fun (r : Int32) (u : (Nat → Nat → Int32)) => match u with | Rp => r = nI (fc + 1) ∧ QRel src ff (fc + 1) (qput q fc t gl gd) Rp) (fun (u : (Nat → Nat → Int32)) => match u with | Rp => [(h0, .inr (3, [.int (nI src), .ref ga, .int (nI 0), .ref fa, .int (nI ff), .int (nI (fc + 1))])), (ga, .inl (cI, 24, .inl gf)), (fa, .inl (cG, 4, .inr (.inr (.inr (.inr (gq4 r0 r1 r2 r3)))))), (r0, .inl (cI, 31, .inl (Rp 0))), (r1, .inl (cI, 31, .inl (Rp 1))), (r2, .inl (cI, 31, .inl (Rp 2))), (r3, .inl (cI, 31, .inl (Rp 3)))]) D (va_A [(h0, .inr (3, [.int (nI src), .ref ga, .int (nI gl), .ref fa, .int (nI ff), .int (nI fc)])), (ga, .inl (cI, 24, .inl gf)), (fa, .inl (cG, 4, .inr (.inr (.inr (.inr (gq4 r0 r1 r2 r3)))))), (r0, .inl (cI, 31, .inl (Rw 0))), (r1, .inl (cI, 31, .inl (Rw 1))), (r2, .inl (cI, 31, .inl (Rw 2))), (r3, .inl (cI, 31, .inl (Rw 3)))] sz)) 0 0 (va_A [(h0, .inr (3, [.int (nI src), .ref ga, .int (nI gl), .ref fa, .int (nI ff), .int (nI fc)])), (ga, .inl (cI, 24, .inl gf)), (fa, .inl (cG, 4, .inr (.inr (.inr (.inr (gq4 r0 r1 r2 r3)))))), (r0, .inl (cI, 31, .inl (Rw 0))), (r1, .inl (cI, 31, .inl (Rw 1))), (r2, .inl (cI, 31, .inl (Rw 2))), (r3, .inl (cI, 31, .inl (Rw 3)))] sz) := by
  refine ct_of (y := yX3_enqueue) (cc := cX3_enqueue) (maxL := 2) (ret := (some .int)) (Qf := QI (fun (r : Int32) (u : (Nat → Nat → Int32)) => match u with | Rp => r = nI (fc + 1) ∧ QRel src ff (fc + 1) (qput q fc t gl gd) Rp) (fun (u : (Nat → Nat → Int32)) => match u with | Rp => [(h0, .inr (3, [.int (nI src), .ref ga, .int (nI 0), .ref fa, .int (nI ff), .int (nI (fc + 1))])), (ga, .inl (cI, 24, .inl gf)), (fa, .inl (cG, 4, .inr (.inr (.inr (.inr (gq4 r0 r1 r2 r3)))))), (r0, .inl (cI, 31, .inl (Rp 0))), (r1, .inl (cI, 31, .inl (Rp 1))), (r2, .inl (cI, 31, .inl (Rp 2))), (r3, .inl (cI, 31, .inl (Rp 3)))]) D) (by decide) rfl ?_
  intro p e s m args below meth c A Q R H locs hR hQ hx hb hml hr hts hown hlocks hin hP hD hE hT hA hS
  have hK := hE.1
  have hl := lv_entry ([.ref h0, .int (nI t)]) (n := 2) (Nat.le_of_ble_eq_true rfl)
  rw [lg_entry_eq]
  generalize (lg_sl ([.ref h0, .int (nI t)]) ++ List.replicate (2 - (lg_sl ([.ref h0, .int (nI t)])).length) Slot.unset).toArray = ls at hl ⊢
  have hl : lv_has ls 2 [(0, .ref h0), (1, .int (nI t))] := hl
  refine lv_aload_n hx hb dX3_enqueue_0 rfl (lv_at hl 0 rfl) ?_
  refine va_get (D := D) (ci := 3) (v := .int (nI fc)) (C := RX3) (T := TX3) (N := 6) hx hb hts inX3_enqueue_X3 hown hK hP 0 rfl rfl 5 (by decide) (hts (.fieldLink RX3 27 "ScrambledLine$Outbox" "frameCount" "I") (by decide +kernel)) (fun _ h9 => h9) rfl dX3_enqueue_1 ?_
  refine lv_iconst (v := nI 4) hx hb dX3_enqueue_4 rfl ?_
  refine lv_icmp_lt (tgt := 11) hx hb dX3_enqueue_5 (by decide) (fun c5 => ?_) (fun c5 => ?_)
  · skip
    have k5 : fc < 4 := (nI_ltI (a := fc) (b := 4) (by omega) (by omega)).mp c5
    refine lv_aload_n hx hb dX3_enqueue_11 rfl (lv_at hl 0 rfl) ?_
    refine lv_aload_n hx hb dX3_enqueue_12 rfl (lv_at hl 0 rfl) ?_
    refine va_get (D := D) (ci := 3) (v := .ref fa) (C := RX3) (T := TX3) (N := 6) hx hb hts inX3_enqueue_X3 hown hK hP 0 rfl rfl 3 (by decide) (hts (.fieldLink RX3 21 "ScrambledLine$Outbox" "frames" "[[I") (by decide +kernel)) (fun _ h9 => h9) rfl dX3_enqueue_13 ?_
    refine lv_aload_n hx hb dX3_enqueue_16 rfl (lv_at hl 0 rfl) ?_
    refine va_get (D := D) (ci := 3) (v := .int (nI ff)) (C := RX3) (T := TX3) (N := 6) hx hb hts inX3_enqueue_X3 hown hK hP 0 rfl rfl 4 (by decide) (hts (.fieldLink RX3 24 "ScrambledLine$Outbox" "firstFrame" "I") (by decide +kernel)) (fun _ h9 => h9) rfl dX3_enqueue_17 ?_
    refine lv_aload_n hx hb dX3_enqueue_20 rfl (lv_at hl 0 rfl) ?_
    refine va_get (D := D) (ci := 3) (v := .int (nI fc)) (C := RX3) (T := TX3) (N := 6) hx hb hts inX3_enqueue_X3 hown hK hP 0 rfl rfl 5 (by decide) (hts (.fieldLink RX3 27 "ScrambledLine$Outbox" "frameCount" "I") (by decide +kernel)) (fun _ h9 => h9) rfl dX3_enqueue_21 ?_
    refine lv_iadd hx hb dX3_enqueue_24 ?_
    refine lv_to (y := nI (ff + fc)) (nI_add ff fc) ?_
    refine lv_iconst (v := nI 4) hx hb dX3_enqueue_25 rfl ?_
    refine lv_irem hx hb dX3_enqueue_26 (by decide) ?_
    refine lv_to (y := nI ((ff + fc) % 4)) (pk_rem (by omega) (by decide) (by decide)) ?_
    refine gl_q hx hb hK hP 2 rfl (i := ((ff + fc) % 4)) (by omega) (by first | decide | omega) dX3_enqueue_27 ?_
    refine lv_tov (y := .ref (rsel r0 r1 r2 r3 ((ff + fc) % 4))) (gq4_at (by omega)) ?_
    rcases (show (ff + fc) % 4 = 0 ∨ (ff + fc) % 4 = 1 ∨ (ff + fc) % 4 = 2 ∨ (ff + fc) % 4 = 3 by omega) with hk | hk | hk | hk
    · skip
      refine lv_tov (y := .ref r0) (by rw [hk]; rfl) ?_
      refine lv_iload_n hx hb dX3_enqueue_28 rfl (lv_at hl 1 rfl) ?_
      refine ca_v (wr := [(fa, .inl (cG, 4, .inr (.inr (.inr (.inr (gq4 r0 r1 r2 r3)))))), (r1, .inl (cI, 31, .inl (Rw 1))), (r2, .inl (cI, 31, .inl (Rw 2))), (r3, .inl (cI, 31, .inl (Rw 3)))]) (ru_V (As := [.ref r0, .int (nI t)]) (rest := []) ⟨hx, hb, hml, hown, hts⟩ (c_X3_fillFrame l D cI cG tt H.size h0 ga fa src gl ff fc gf r0 (Rw 0) t gd (by omega) hgd) (cwV 2 hts gX3_enqueue_X3_fillFrame rfl rfl rfl (by decide +kernel) ⟨by rw [hR]; exact Nat.le_of_ble_eq_true rfl, by rw [hR]; exact Nat.le_of_ble_eq_true rfl⟩) hP hD hE hT hS hA [0, 1, 3] rfl (by decide) (va_recv hK hP (ci := 3) (q0 := 0) rfl rfl) rfl hl.1 rfl (Nat.le_of_ble_eq_true rfl) dX3_enqueue_29 ⟨by rw [hR]; exact Nat.le_of_ble_eq_true rfl, by rw [hR]; exact Nat.le_of_ble_eq_true rfl⟩) hP hD hS hA [0, 1, 3] [2, 4, 5, 6] rfl rfl (by decide) (by decide) (fun u H locs hw hP hD hS => ?_)
      obtain ⟨rf2_29, rfl⟩ : ∃ z, z = u := ⟨_, rfl⟩
      have hrow_29 := hw
      have hP : va_P D vwCl [(fa, .inl (cG, 4, .inr (.inr (.inr (.inr (gq4 r0 r1 r2 r3)))))), (r1, .inl (cI, 31, .inl (Rw 1))), (r2, .inl (cI, 31, .inl (Rw 2))), (r3, .inl (cI, 31, .inl (Rw 3))), (h0, .inr (3, [.int (nI src), .ref ga, .int (nI gl), .ref fa, .int (nI ff), .int (nI fc)])), (ga, .inl (cI, 24, .inl gf)), (r0, .inl (cI, 31, .inl rf2_29))] H := hP
      have hD : va_D A [(fa, .inl (cG, 4, .inr (.inr (.inr (.inr (gq4 r0 r1 r2 r3)))))), (r1, .inl (cI, 31, .inl (Rw 1))), (r2, .inl (cI, 31, .inl (Rw 2))), (r3, .inl (cI, 31, .inl (Rw 3))), (h0, .inr (3, [.int (nI src), .ref ga, .int (nI gl), .ref fa, .int (nI ff), .int (nI fc)])), (ga, .inl (cI, 24, .inl gf)), (r0, .inl (cI, 31, .inl rf2_29))] := hD
      refine lv_aload_n hx hb dX3_enqueue_32 rfl (lv_at hl 0 rfl) ?_
      refine lv_iconst (v := nI 0) hx hb dX3_enqueue_33 rfl ?_
      refine va_put (D := D) (ci := 3) (v := .int (nI 0)) (ty := .int) (C := RX3) (T := TX3) (N := 6) hx hb hts inX3_enqueue_X3 tyX3 tyX3_ok nmX3 hown hK hP hD hS 4 rfl rfl 2 (by decide) (hts (.fieldLink RX3 15 "ScrambledLine$Outbox" "givenCount" "I") (by decide +kernel)) (fun _ h9 => h9) rfl (by decide +kernel) rfl rfl (Nat.le_of_ble_eq_true rfl) dX3_enqueue_34 (fun H locs hP hD hS => ?_)
      have hP : va_P D vwCl [(fa, .inl (cG, 4, .inr (.inr (.inr (.inr (gq4 r0 r1 r2 r3)))))), (r1, .inl (cI, 31, .inl (Rw 1))), (r2, .inl (cI, 31, .inl (Rw 2))), (r3, .inl (cI, 31, .inl (Rw 3))), (h0, .inr (3, [.int (nI src), .ref ga, .int (nI 0), .ref fa, .int (nI ff), .int (nI fc)])), (ga, .inl (cI, 24, .inl gf)), (r0, .inl (cI, 31, .inl rf2_29))] H := hP
      have hD : va_D A [(fa, .inl (cG, 4, .inr (.inr (.inr (.inr (gq4 r0 r1 r2 r3)))))), (r1, .inl (cI, 31, .inl (Rw 1))), (r2, .inl (cI, 31, .inl (Rw 2))), (r3, .inl (cI, 31, .inl (Rw 3))), (h0, .inr (3, [.int (nI src), .ref ga, .int (nI 0), .ref fa, .int (nI ff), .int (nI fc)])), (ga, .inl (cI, 24, .inl gf)), (r0, .inl (cI, 31, .inl rf2_29))] := hD
      refine lv_aload_n hx hb dX3_enqueue_37 rfl (lv_at hl 0 rfl) ?_
      refine lv_dup hx hb dX3_enqueue_38 rfl ?_
      refine va_get (D := D) (ci := 3) (v := .int (nI fc)) (C := RX3) (T := TX3) (N := 6) hx hb hts inX3_enqueue_X3 hown hK hP 4 rfl rfl 5 (by decide) (hts (.fieldLink RX3 27 "ScrambledLine$Outbox" "frameCount" "I") (by decide +kernel)) (fun _ h9 => h9) rfl dX3_enqueue_39 ?_
      refine lv_iconst (v := nI 1) hx hb dX3_enqueue_42 rfl ?_
      refine lv_iadd hx hb dX3_enqueue_43 ?_
      refine lv_to (y := nI (fc + 1)) (nI_add fc 1) ?_
      refine va_put (D := D) (ci := 3) (v := .int (nI (fc + 1))) (ty := .int) (C := RX3) (T := TX3) (N := 6) hx hb hts inX3_enqueue_X3 tyX3 tyX3_ok nmX3 hown hK hP hD hS 4 rfl rfl 5 (by decide) (hts (.fieldLink RX3 27 "ScrambledLine$Outbox" "frameCount" "I") (by decide +kernel)) (fun _ h9 => h9) rfl (by decide +kernel) rfl rfl (Nat.le_of_ble_eq_true rfl) dX3_enqueue_44 (fun H locs hP hD hS => ?_)
      have hP : va_P D vwCl [(fa, .inl (cG, 4, .inr (.inr (.inr (.inr (gq4 r0 r1 r2 r3)))))), (r1, .inl (cI, 31, .inl (Rw 1))), (r2, .inl (cI, 31, .inl (Rw 2))), (r3, .inl (cI, 31, .inl (Rw 3))), (h0, .inr (3, [.int (nI src), .ref ga, .int (nI 0), .ref fa, .int (nI ff), .int (nI (fc + 1))])), (ga, .inl (cI, 24, .inl gf)), (r0, .inl (cI, 31, .inl rf2_29))] H := hP
      have hD : va_D A [(fa, .inl (cG, 4, .inr (.inr (.inr (.inr (gq4 r0 r1 r2 r3)))))), (r1, .inl (cI, 31, .inl (Rw 1))), (r2, .inl (cI, 31, .inl (Rw 2))), (r3, .inl (cI, 31, .inl (Rw 3))), (h0, .inr (3, [.int (nI src), .ref ga, .int (nI 0), .ref fa, .int (nI ff), .int (nI (fc + 1))])), (ga, .inl (cI, 24, .inl gf)), (r0, .inl (cI, 31, .inl rf2_29))] := hD
      refine lv_aload_n hx hb dX3_enqueue_47 rfl (lv_at hl 0 rfl) ?_
      refine va_get (D := D) (ci := 3) (v := .int (nI (fc + 1))) (C := RX3) (T := TX3) (N := 6) hx hb hts inX3_enqueue_X3 hown hK hP 4 rfl rfl 5 (by decide) (hts (.fieldLink RX3 27 "ScrambledLine$Outbox" "frameCount" "I") (by decide +kernel)) (fun _ h9 => h9) rfl dX3_enqueue_48 ?_
      refine W_q hQ ?_
      exact rt_i (va_up Rw 0 rf2_29) hx hb hr hlocks dX3_enqueue_51 hS (hP.sub [4, 5, 0, 6, 1, 2, 3] rfl) (hD.sub [4, 5, 0, 6, 1, 2, 3] (by decide) rfl) (⟨rfl, QRel_put hQ0 hq hg hk hrow_29 hqn⟩)
    · skip
      refine lv_tov (y := .ref r1) (by rw [hk]; rfl) ?_
      refine lv_iload_n hx hb dX3_enqueue_28 rfl (lv_at hl 1 rfl) ?_
      refine ca_v (wr := [(fa, .inl (cG, 4, .inr (.inr (.inr (.inr (gq4 r0 r1 r2 r3)))))), (r0, .inl (cI, 31, .inl (Rw 0))), (r2, .inl (cI, 31, .inl (Rw 2))), (r3, .inl (cI, 31, .inl (Rw 3)))]) (ru_V (As := [.ref r1, .int (nI t)]) (rest := []) ⟨hx, hb, hml, hown, hts⟩ (c_X3_fillFrame l D cI cG tt H.size h0 ga fa src gl ff fc gf r1 (Rw 1) t gd (by omega) hgd) (cwV 2 hts gX3_enqueue_X3_fillFrame rfl rfl rfl (by decide +kernel) ⟨by rw [hR]; exact Nat.le_of_ble_eq_true rfl, by rw [hR]; exact Nat.le_of_ble_eq_true rfl⟩) hP hD hE hT hS hA [0, 1, 4] rfl (by decide) (va_recv hK hP (ci := 3) (q0 := 0) rfl rfl) rfl hl.1 rfl (Nat.le_of_ble_eq_true rfl) dX3_enqueue_29 ⟨by rw [hR]; exact Nat.le_of_ble_eq_true rfl, by rw [hR]; exact Nat.le_of_ble_eq_true rfl⟩) hP hD hS hA [0, 1, 4] [2, 3, 5, 6] rfl rfl (by decide) (by decide) (fun u H locs hw hP hD hS => ?_)
      obtain ⟨rf2_29, rfl⟩ : ∃ z, z = u := ⟨_, rfl⟩
      have hrow_29 := hw
      have hP : va_P D vwCl [(fa, .inl (cG, 4, .inr (.inr (.inr (.inr (gq4 r0 r1 r2 r3)))))), (r0, .inl (cI, 31, .inl (Rw 0))), (r2, .inl (cI, 31, .inl (Rw 2))), (r3, .inl (cI, 31, .inl (Rw 3))), (h0, .inr (3, [.int (nI src), .ref ga, .int (nI gl), .ref fa, .int (nI ff), .int (nI fc)])), (ga, .inl (cI, 24, .inl gf)), (r1, .inl (cI, 31, .inl rf2_29))] H := hP
      have hD : va_D A [(fa, .inl (cG, 4, .inr (.inr (.inr (.inr (gq4 r0 r1 r2 r3)))))), (r0, .inl (cI, 31, .inl (Rw 0))), (r2, .inl (cI, 31, .inl (Rw 2))), (r3, .inl (cI, 31, .inl (Rw 3))), (h0, .inr (3, [.int (nI src), .ref ga, .int (nI gl), .ref fa, .int (nI ff), .int (nI fc)])), (ga, .inl (cI, 24, .inl gf)), (r1, .inl (cI, 31, .inl rf2_29))] := hD
      refine lv_aload_n hx hb dX3_enqueue_32 rfl (lv_at hl 0 rfl) ?_
      refine lv_iconst (v := nI 0) hx hb dX3_enqueue_33 rfl ?_
      refine va_put (D := D) (ci := 3) (v := .int (nI 0)) (ty := .int) (C := RX3) (T := TX3) (N := 6) hx hb hts inX3_enqueue_X3 tyX3 tyX3_ok nmX3 hown hK hP hD hS 4 rfl rfl 2 (by decide) (hts (.fieldLink RX3 15 "ScrambledLine$Outbox" "givenCount" "I") (by decide +kernel)) (fun _ h9 => h9) rfl (by decide +kernel) rfl rfl (Nat.le_of_ble_eq_true rfl) dX3_enqueue_34 (fun H locs hP hD hS => ?_)
      have hP : va_P D vwCl [(fa, .inl (cG, 4, .inr (.inr (.inr (.inr (gq4 r0 r1 r2 r3)))))), (r0, .inl (cI, 31, .inl (Rw 0))), (r2, .inl (cI, 31, .inl (Rw 2))), (r3, .inl (cI, 31, .inl (Rw 3))), (h0, .inr (3, [.int (nI src), .ref ga, .int (nI 0), .ref fa, .int (nI ff), .int (nI fc)])), (ga, .inl (cI, 24, .inl gf)), (r1, .inl (cI, 31, .inl rf2_29))] H := hP
      have hD : va_D A [(fa, .inl (cG, 4, .inr (.inr (.inr (.inr (gq4 r0 r1 r2 r3)))))), (r0, .inl (cI, 31, .inl (Rw 0))), (r2, .inl (cI, 31, .inl (Rw 2))), (r3, .inl (cI, 31, .inl (Rw 3))), (h0, .inr (3, [.int (nI src), .ref ga, .int (nI 0), .ref fa, .int (nI ff), .int (nI fc)])), (ga, .inl (cI, 24, .inl gf)), (r1, .inl (cI, 31, .inl rf2_29))] := hD
      refine lv_aload_n hx hb dX3_enqueue_37 rfl (lv_at hl 0 rfl) ?_
      refine lv_dup hx hb dX3_enqueue_38 rfl ?_
      refine va_get (D := D) (ci := 3) (v := .int (nI fc)) (C := RX3) (T := TX3) (N := 6) hx hb hts inX3_enqueue_X3 hown hK hP 4 rfl rfl 5 (by decide) (hts (.fieldLink RX3 27 "ScrambledLine$Outbox" "frameCount" "I") (by decide +kernel)) (fun _ h9 => h9) rfl dX3_enqueue_39 ?_
      refine lv_iconst (v := nI 1) hx hb dX3_enqueue_42 rfl ?_
      refine lv_iadd hx hb dX3_enqueue_43 ?_
      refine lv_to (y := nI (fc + 1)) (nI_add fc 1) ?_
      refine va_put (D := D) (ci := 3) (v := .int (nI (fc + 1))) (ty := .int) (C := RX3) (T := TX3) (N := 6) hx hb hts inX3_enqueue_X3 tyX3 tyX3_ok nmX3 hown hK hP hD hS 4 rfl rfl 5 (by decide) (hts (.fieldLink RX3 27 "ScrambledLine$Outbox" "frameCount" "I") (by decide +kernel)) (fun _ h9 => h9) rfl (by decide +kernel) rfl rfl (Nat.le_of_ble_eq_true rfl) dX3_enqueue_44 (fun H locs hP hD hS => ?_)
      have hP : va_P D vwCl [(fa, .inl (cG, 4, .inr (.inr (.inr (.inr (gq4 r0 r1 r2 r3)))))), (r0, .inl (cI, 31, .inl (Rw 0))), (r2, .inl (cI, 31, .inl (Rw 2))), (r3, .inl (cI, 31, .inl (Rw 3))), (h0, .inr (3, [.int (nI src), .ref ga, .int (nI 0), .ref fa, .int (nI ff), .int (nI (fc + 1))])), (ga, .inl (cI, 24, .inl gf)), (r1, .inl (cI, 31, .inl rf2_29))] H := hP
      have hD : va_D A [(fa, .inl (cG, 4, .inr (.inr (.inr (.inr (gq4 r0 r1 r2 r3)))))), (r0, .inl (cI, 31, .inl (Rw 0))), (r2, .inl (cI, 31, .inl (Rw 2))), (r3, .inl (cI, 31, .inl (Rw 3))), (h0, .inr (3, [.int (nI src), .ref ga, .int (nI 0), .ref fa, .int (nI ff), .int (nI (fc + 1))])), (ga, .inl (cI, 24, .inl gf)), (r1, .inl (cI, 31, .inl rf2_29))] := hD
      refine lv_aload_n hx hb dX3_enqueue_47 rfl (lv_at hl 0 rfl) ?_
      refine va_get (D := D) (ci := 3) (v := .int (nI (fc + 1))) (C := RX3) (T := TX3) (N := 6) hx hb hts inX3_enqueue_X3 hown hK hP 4 rfl rfl 5 (by decide) (hts (.fieldLink RX3 27 "ScrambledLine$Outbox" "frameCount" "I") (by decide +kernel)) (fun _ h9 => h9) rfl dX3_enqueue_48 ?_
      refine W_q hQ ?_
      exact rt_i (va_up Rw 1 rf2_29) hx hb hr hlocks dX3_enqueue_51 hS (hP.sub [4, 5, 0, 1, 6, 2, 3] rfl) (hD.sub [4, 5, 0, 1, 6, 2, 3] (by decide) rfl) (⟨rfl, QRel_put hQ0 hq hg hk hrow_29 hqn⟩)
    · skip
      refine lv_tov (y := .ref r2) (by rw [hk]; rfl) ?_
      refine lv_iload_n hx hb dX3_enqueue_28 rfl (lv_at hl 1 rfl) ?_
      refine ca_v (wr := [(fa, .inl (cG, 4, .inr (.inr (.inr (.inr (gq4 r0 r1 r2 r3)))))), (r0, .inl (cI, 31, .inl (Rw 0))), (r1, .inl (cI, 31, .inl (Rw 1))), (r3, .inl (cI, 31, .inl (Rw 3)))]) (ru_V (As := [.ref r2, .int (nI t)]) (rest := []) ⟨hx, hb, hml, hown, hts⟩ (c_X3_fillFrame l D cI cG tt H.size h0 ga fa src gl ff fc gf r2 (Rw 2) t gd (by omega) hgd) (cwV 2 hts gX3_enqueue_X3_fillFrame rfl rfl rfl (by decide +kernel) ⟨by rw [hR]; exact Nat.le_of_ble_eq_true rfl, by rw [hR]; exact Nat.le_of_ble_eq_true rfl⟩) hP hD hE hT hS hA [0, 1, 5] rfl (by decide) (va_recv hK hP (ci := 3) (q0 := 0) rfl rfl) rfl hl.1 rfl (Nat.le_of_ble_eq_true rfl) dX3_enqueue_29 ⟨by rw [hR]; exact Nat.le_of_ble_eq_true rfl, by rw [hR]; exact Nat.le_of_ble_eq_true rfl⟩) hP hD hS hA [0, 1, 5] [2, 3, 4, 6] rfl rfl (by decide) (by decide) (fun u H locs hw hP hD hS => ?_)
      obtain ⟨rf2_29, rfl⟩ : ∃ z, z = u := ⟨_, rfl⟩
      have hrow_29 := hw
      have hP : va_P D vwCl [(fa, .inl (cG, 4, .inr (.inr (.inr (.inr (gq4 r0 r1 r2 r3)))))), (r0, .inl (cI, 31, .inl (Rw 0))), (r1, .inl (cI, 31, .inl (Rw 1))), (r3, .inl (cI, 31, .inl (Rw 3))), (h0, .inr (3, [.int (nI src), .ref ga, .int (nI gl), .ref fa, .int (nI ff), .int (nI fc)])), (ga, .inl (cI, 24, .inl gf)), (r2, .inl (cI, 31, .inl rf2_29))] H := hP
      have hD : va_D A [(fa, .inl (cG, 4, .inr (.inr (.inr (.inr (gq4 r0 r1 r2 r3)))))), (r0, .inl (cI, 31, .inl (Rw 0))), (r1, .inl (cI, 31, .inl (Rw 1))), (r3, .inl (cI, 31, .inl (Rw 3))), (h0, .inr (3, [.int (nI src), .ref ga, .int (nI gl), .ref fa, .int (nI ff), .int (nI fc)])), (ga, .inl (cI, 24, .inl gf)), (r2, .inl (cI, 31, .inl rf2_29))] := hD
      refine lv_aload_n hx hb dX3_enqueue_32 rfl (lv_at hl 0 rfl) ?_
      refine lv_iconst (v := nI 0) hx hb dX3_enqueue_33 rfl ?_
      refine va_put (D := D) (ci := 3) (v := .int (nI 0)) (ty := .int) (C := RX3) (T := TX3) (N := 6) hx hb hts inX3_enqueue_X3 tyX3 tyX3_ok nmX3 hown hK hP hD hS 4 rfl rfl 2 (by decide) (hts (.fieldLink RX3 15 "ScrambledLine$Outbox" "givenCount" "I") (by decide +kernel)) (fun _ h9 => h9) rfl (by decide +kernel) rfl rfl (Nat.le_of_ble_eq_true rfl) dX3_enqueue_34 (fun H locs hP hD hS => ?_)
      have hP : va_P D vwCl [(fa, .inl (cG, 4, .inr (.inr (.inr (.inr (gq4 r0 r1 r2 r3)))))), (r0, .inl (cI, 31, .inl (Rw 0))), (r1, .inl (cI, 31, .inl (Rw 1))), (r3, .inl (cI, 31, .inl (Rw 3))), (h0, .inr (3, [.int (nI src), .ref ga, .int (nI 0), .ref fa, .int (nI ff), .int (nI fc)])), (ga, .inl (cI, 24, .inl gf)), (r2, .inl (cI, 31, .inl rf2_29))] H := hP
      have hD : va_D A [(fa, .inl (cG, 4, .inr (.inr (.inr (.inr (gq4 r0 r1 r2 r3)))))), (r0, .inl (cI, 31, .inl (Rw 0))), (r1, .inl (cI, 31, .inl (Rw 1))), (r3, .inl (cI, 31, .inl (Rw 3))), (h0, .inr (3, [.int (nI src), .ref ga, .int (nI 0), .ref fa, .int (nI ff), .int (nI fc)])), (ga, .inl (cI, 24, .inl gf)), (r2, .inl (cI, 31, .inl rf2_29))] := hD
      refine lv_aload_n hx hb dX3_enqueue_37 rfl (lv_at hl 0 rfl) ?_
      refine lv_dup hx hb dX3_enqueue_38 rfl ?_
      refine va_get (D := D) (ci := 3) (v := .int (nI fc)) (C := RX3) (T := TX3) (N := 6) hx hb hts inX3_enqueue_X3 hown hK hP 4 rfl rfl 5 (by decide) (hts (.fieldLink RX3 27 "ScrambledLine$Outbox" "frameCount" "I") (by decide +kernel)) (fun _ h9 => h9) rfl dX3_enqueue_39 ?_
      refine lv_iconst (v := nI 1) hx hb dX3_enqueue_42 rfl ?_
      refine lv_iadd hx hb dX3_enqueue_43 ?_
      refine lv_to (y := nI (fc + 1)) (nI_add fc 1) ?_
      refine va_put (D := D) (ci := 3) (v := .int (nI (fc + 1))) (ty := .int) (C := RX3) (T := TX3) (N := 6) hx hb hts inX3_enqueue_X3 tyX3 tyX3_ok nmX3 hown hK hP hD hS 4 rfl rfl 5 (by decide) (hts (.fieldLink RX3 27 "ScrambledLine$Outbox" "frameCount" "I") (by decide +kernel)) (fun _ h9 => h9) rfl (by decide +kernel) rfl rfl (Nat.le_of_ble_eq_true rfl) dX3_enqueue_44 (fun H locs hP hD hS => ?_)
      have hP : va_P D vwCl [(fa, .inl (cG, 4, .inr (.inr (.inr (.inr (gq4 r0 r1 r2 r3)))))), (r0, .inl (cI, 31, .inl (Rw 0))), (r1, .inl (cI, 31, .inl (Rw 1))), (r3, .inl (cI, 31, .inl (Rw 3))), (h0, .inr (3, [.int (nI src), .ref ga, .int (nI 0), .ref fa, .int (nI ff), .int (nI (fc + 1))])), (ga, .inl (cI, 24, .inl gf)), (r2, .inl (cI, 31, .inl rf2_29))] H := hP
      have hD : va_D A [(fa, .inl (cG, 4, .inr (.inr (.inr (.inr (gq4 r0 r1 r2 r3)))))), (r0, .inl (cI, 31, .inl (Rw 0))), (r1, .inl (cI, 31, .inl (Rw 1))), (r3, .inl (cI, 31, .inl (Rw 3))), (h0, .inr (3, [.int (nI src), .ref ga, .int (nI 0), .ref fa, .int (nI ff), .int (nI (fc + 1))])), (ga, .inl (cI, 24, .inl gf)), (r2, .inl (cI, 31, .inl rf2_29))] := hD
      refine lv_aload_n hx hb dX3_enqueue_47 rfl (lv_at hl 0 rfl) ?_
      refine va_get (D := D) (ci := 3) (v := .int (nI (fc + 1))) (C := RX3) (T := TX3) (N := 6) hx hb hts inX3_enqueue_X3 hown hK hP 4 rfl rfl 5 (by decide) (hts (.fieldLink RX3 27 "ScrambledLine$Outbox" "frameCount" "I") (by decide +kernel)) (fun _ h9 => h9) rfl dX3_enqueue_48 ?_
      refine W_q hQ ?_
      exact rt_i (va_up Rw 2 rf2_29) hx hb hr hlocks dX3_enqueue_51 hS (hP.sub [4, 5, 0, 1, 2, 6, 3] rfl) (hD.sub [4, 5, 0, 1, 2, 6, 3] (by decide) rfl) (⟨rfl, QRel_put hQ0 hq hg hk hrow_29 hqn⟩)
    · skip
      refine lv_tov (y := .ref r3) (by rw [hk]; rfl) ?_
      refine lv_iload_n hx hb dX3_enqueue_28 rfl (lv_at hl 1 rfl) ?_
      refine ca_v (wr := [(fa, .inl (cG, 4, .inr (.inr (.inr (.inr (gq4 r0 r1 r2 r3)))))), (r0, .inl (cI, 31, .inl (Rw 0))), (r1, .inl (cI, 31, .inl (Rw 1))), (r2, .inl (cI, 31, .inl (Rw 2)))]) (ru_V (As := [.ref r3, .int (nI t)]) (rest := []) ⟨hx, hb, hml, hown, hts⟩ (c_X3_fillFrame l D cI cG tt H.size h0 ga fa src gl ff fc gf r3 (Rw 3) t gd (by omega) hgd) (cwV 2 hts gX3_enqueue_X3_fillFrame rfl rfl rfl (by decide +kernel) ⟨by rw [hR]; exact Nat.le_of_ble_eq_true rfl, by rw [hR]; exact Nat.le_of_ble_eq_true rfl⟩) hP hD hE hT hS hA [0, 1, 6] rfl (by decide) (va_recv hK hP (ci := 3) (q0 := 0) rfl rfl) rfl hl.1 rfl (Nat.le_of_ble_eq_true rfl) dX3_enqueue_29 ⟨by rw [hR]; exact Nat.le_of_ble_eq_true rfl, by rw [hR]; exact Nat.le_of_ble_eq_true rfl⟩) hP hD hS hA [0, 1, 6] [2, 3, 4, 5] rfl rfl (by decide) (by decide) (fun u H locs hw hP hD hS => ?_)
      obtain ⟨rf2_29, rfl⟩ : ∃ z, z = u := ⟨_, rfl⟩
      have hrow_29 := hw
      have hP : va_P D vwCl [(fa, .inl (cG, 4, .inr (.inr (.inr (.inr (gq4 r0 r1 r2 r3)))))), (r0, .inl (cI, 31, .inl (Rw 0))), (r1, .inl (cI, 31, .inl (Rw 1))), (r2, .inl (cI, 31, .inl (Rw 2))), (h0, .inr (3, [.int (nI src), .ref ga, .int (nI gl), .ref fa, .int (nI ff), .int (nI fc)])), (ga, .inl (cI, 24, .inl gf)), (r3, .inl (cI, 31, .inl rf2_29))] H := hP
      have hD : va_D A [(fa, .inl (cG, 4, .inr (.inr (.inr (.inr (gq4 r0 r1 r2 r3)))))), (r0, .inl (cI, 31, .inl (Rw 0))), (r1, .inl (cI, 31, .inl (Rw 1))), (r2, .inl (cI, 31, .inl (Rw 2))), (h0, .inr (3, [.int (nI src), .ref ga, .int (nI gl), .ref fa, .int (nI ff), .int (nI fc)])), (ga, .inl (cI, 24, .inl gf)), (r3, .inl (cI, 31, .inl rf2_29))] := hD
      refine lv_aload_n hx hb dX3_enqueue_32 rfl (lv_at hl 0 rfl) ?_
      refine lv_iconst (v := nI 0) hx hb dX3_enqueue_33 rfl ?_
      refine va_put (D := D) (ci := 3) (v := .int (nI 0)) (ty := .int) (C := RX3) (T := TX3) (N := 6) hx hb hts inX3_enqueue_X3 tyX3 tyX3_ok nmX3 hown hK hP hD hS 4 rfl rfl 2 (by decide) (hts (.fieldLink RX3 15 "ScrambledLine$Outbox" "givenCount" "I") (by decide +kernel)) (fun _ h9 => h9) rfl (by decide +kernel) rfl rfl (Nat.le_of_ble_eq_true rfl) dX3_enqueue_34 (fun H locs hP hD hS => ?_)
      have hP : va_P D vwCl [(fa, .inl (cG, 4, .inr (.inr (.inr (.inr (gq4 r0 r1 r2 r3)))))), (r0, .inl (cI, 31, .inl (Rw 0))), (r1, .inl (cI, 31, .inl (Rw 1))), (r2, .inl (cI, 31, .inl (Rw 2))), (h0, .inr (3, [.int (nI src), .ref ga, .int (nI 0), .ref fa, .int (nI ff), .int (nI fc)])), (ga, .inl (cI, 24, .inl gf)), (r3, .inl (cI, 31, .inl rf2_29))] H := hP
      have hD : va_D A [(fa, .inl (cG, 4, .inr (.inr (.inr (.inr (gq4 r0 r1 r2 r3)))))), (r0, .inl (cI, 31, .inl (Rw 0))), (r1, .inl (cI, 31, .inl (Rw 1))), (r2, .inl (cI, 31, .inl (Rw 2))), (h0, .inr (3, [.int (nI src), .ref ga, .int (nI 0), .ref fa, .int (nI ff), .int (nI fc)])), (ga, .inl (cI, 24, .inl gf)), (r3, .inl (cI, 31, .inl rf2_29))] := hD
      refine lv_aload_n hx hb dX3_enqueue_37 rfl (lv_at hl 0 rfl) ?_
      refine lv_dup hx hb dX3_enqueue_38 rfl ?_
      refine va_get (D := D) (ci := 3) (v := .int (nI fc)) (C := RX3) (T := TX3) (N := 6) hx hb hts inX3_enqueue_X3 hown hK hP 4 rfl rfl 5 (by decide) (hts (.fieldLink RX3 27 "ScrambledLine$Outbox" "frameCount" "I") (by decide +kernel)) (fun _ h9 => h9) rfl dX3_enqueue_39 ?_
      refine lv_iconst (v := nI 1) hx hb dX3_enqueue_42 rfl ?_
      refine lv_iadd hx hb dX3_enqueue_43 ?_
      refine lv_to (y := nI (fc + 1)) (nI_add fc 1) ?_
      refine va_put (D := D) (ci := 3) (v := .int (nI (fc + 1))) (ty := .int) (C := RX3) (T := TX3) (N := 6) hx hb hts inX3_enqueue_X3 tyX3 tyX3_ok nmX3 hown hK hP hD hS 4 rfl rfl 5 (by decide) (hts (.fieldLink RX3 27 "ScrambledLine$Outbox" "frameCount" "I") (by decide +kernel)) (fun _ h9 => h9) rfl (by decide +kernel) rfl rfl (Nat.le_of_ble_eq_true rfl) dX3_enqueue_44 (fun H locs hP hD hS => ?_)
      have hP : va_P D vwCl [(fa, .inl (cG, 4, .inr (.inr (.inr (.inr (gq4 r0 r1 r2 r3)))))), (r0, .inl (cI, 31, .inl (Rw 0))), (r1, .inl (cI, 31, .inl (Rw 1))), (r2, .inl (cI, 31, .inl (Rw 2))), (h0, .inr (3, [.int (nI src), .ref ga, .int (nI 0), .ref fa, .int (nI ff), .int (nI (fc + 1))])), (ga, .inl (cI, 24, .inl gf)), (r3, .inl (cI, 31, .inl rf2_29))] H := hP
      have hD : va_D A [(fa, .inl (cG, 4, .inr (.inr (.inr (.inr (gq4 r0 r1 r2 r3)))))), (r0, .inl (cI, 31, .inl (Rw 0))), (r1, .inl (cI, 31, .inl (Rw 1))), (r2, .inl (cI, 31, .inl (Rw 2))), (h0, .inr (3, [.int (nI src), .ref ga, .int (nI 0), .ref fa, .int (nI ff), .int (nI (fc + 1))])), (ga, .inl (cI, 24, .inl gf)), (r3, .inl (cI, 31, .inl rf2_29))] := hD
      refine lv_aload_n hx hb dX3_enqueue_47 rfl (lv_at hl 0 rfl) ?_
      refine va_get (D := D) (ci := 3) (v := .int (nI (fc + 1))) (C := RX3) (T := TX3) (N := 6) hx hb hts inX3_enqueue_X3 hown hK hP 4 rfl rfl 5 (by decide) (hts (.fieldLink RX3 27 "ScrambledLine$Outbox" "frameCount" "I") (by decide +kernel)) (fun _ h9 => h9) rfl dX3_enqueue_48 ?_
      refine W_q hQ ?_
      exact rt_i (va_up Rw 3 rf2_29) hx hb hr hlocks dX3_enqueue_51 hS (hP.sub [4, 5, 0, 1, 2, 3, 6] rfl) (hD.sub [4, 5, 0, 1, 2, 3, 6] (by decide) rfl) (⟨rfl, QRel_put hQ0 hq hg hk hrow_29 hqn⟩)
  · skip
    have k5 : ¬ fc < 4 := fun zq => c5 ((nI_ltI (a := fc) (b := 4) (by omega) (by omega)).mpr zq)
    exact False.elim (by omega)

theorem inX3_takeFirst_X3 : ∀ w ∈ u_ws RX3 TX3 6, w ∈ wsX3_takeFirst := by decide +kernel
set_option maxHeartbeats 4000000 in
set_option maxRecDepth 100000 in
theorem c_X3_takeFirst (l : Launch) (D : va_G) (cI cG : ClassId) (tt : Nat × Nat × Nat) (sz : Nat) (h0 : Nat) (ga : Nat) (fa : Nat) (src : Nat) (gl : Nat) (ff : Nat) (fc : Nat) (r0 : Nat) (r1 : Nat) (r2 : Nat) (r3 : Nat) (hff : ff < 4) (hfc : 0 < fc) (hfc2 : fc ≤ 4) : Met l yX3_takeFirst wsX3_takeFirst ({ frames := 0, cells := 0, slots := 0, locals := 0 }) (PC D cI cG tt [.ref h0] [(h0, .inr (3, [.int (nI src), .ref ga, .int (nI gl), .ref fa, .int (nI ff), .int (nI fc)])), (fa, .inl (cG, 4, .inr (.inr (.inr (.inr (gq4 r0 r1 r2 r3))))))] sz) (QR (fun (r : Nat) (u : Unit) => r = (rsel r0 r1 r2 r3 ff)) (fun (u : Unit) => [(h0, .inr (3, [.int (nI src), .ref ga, .int (nI gl), .ref fa, .int (nI ((ff + 1) % 4)), .int (nI (fc - 1))])), (fa, .inl (cG, 4, .inr (.inr (.inr (.inr (gq4 r0 r1 r2 r3))))))]) D (va_A [(h0, .inr (3, [.int (nI src), .ref ga, .int (nI gl), .ref fa, .int (nI ff), .int (nI fc)])), (fa, .inl (cG, 4, .inr (.inr (.inr (.inr (gq4 r0 r1 r2 r3))))))] sz)) 0 0 (va_A [(h0, .inr (3, [.int (nI src), .ref ga, .int (nI gl), .ref fa, .int (nI ff), .int (nI fc)])), (fa, .inl (cG, 4, .inr (.inr (.inr (.inr (gq4 r0 r1 r2 r3))))))] sz) := by
  refine ct_of (y := yX3_takeFirst) (cc := cX3_takeFirst) (maxL := 2) (ret := (some (.array .int))) (Qf := QR (fun (r : Nat) (u : Unit) => r = (rsel r0 r1 r2 r3 ff)) (fun (u : Unit) => [(h0, .inr (3, [.int (nI src), .ref ga, .int (nI gl), .ref fa, .int (nI ((ff + 1) % 4)), .int (nI (fc - 1))])), (fa, .inl (cG, 4, .inr (.inr (.inr (.inr (gq4 r0 r1 r2 r3))))))]) D) (by decide) rfl ?_
  intro p e s m args below meth c A Q R H locs hR hQ hx hb hml hr hts hown hlocks hin hP hD hE hT hA hS
  have hK := hE.1
  have hl := lv_entry ([.ref h0]) (n := 2) (Nat.le_of_ble_eq_true rfl)
  rw [lg_entry_eq]
  generalize (lg_sl ([.ref h0]) ++ List.replicate (2 - (lg_sl ([.ref h0])).length) Slot.unset).toArray = ls at hl ⊢
  have hl : lv_has ls 2 [(0, .ref h0)] := hl
  refine lv_aload_n hx hb dX3_takeFirst_0 rfl (lv_at hl 0 rfl) ?_
  refine va_get (D := D) (ci := 3) (v := .ref fa) (C := RX3) (T := TX3) (N := 6) hx hb hts inX3_takeFirst_X3 hown hK hP 0 rfl rfl 3 (by decide) (hts (.fieldLink RX3 21 "ScrambledLine$Outbox" "frames" "[[I") (by decide +kernel)) (fun _ h9 => h9) rfl dX3_takeFirst_1 ?_
  refine lv_aload_n hx hb dX3_takeFirst_4 rfl (lv_at hl 0 rfl) ?_
  refine va_get (D := D) (ci := 3) (v := .int (nI ff)) (C := RX3) (T := TX3) (N := 6) hx hb hts inX3_takeFirst_X3 hown hK hP 0 rfl rfl 4 (by decide) (hts (.fieldLink RX3 24 "ScrambledLine$Outbox" "firstFrame" "I") (by decide +kernel)) (fun _ h9 => h9) rfl dX3_takeFirst_5 ?_
  refine gl_q hx hb hK hP 1 rfl (i := ff) (by omega) (by first | decide | omega) dX3_takeFirst_8 ?_
  refine lv_tov (y := .ref (rsel r0 r1 r2 r3 ff)) (gq4_at hff) ?_
  refine lv_astore_n (lv' := [(1, .ref (rsel r0 r1 r2 r3 ff)), (0, .ref h0)]) hx hb dX3_takeFirst_9 rfl hl (by decide) rfl (fun ls hl => ?_)
  refine lv_aload_n hx hb dX3_takeFirst_10 rfl (lv_at hl 1 rfl) ?_
  refine lv_aload_n hx hb dX3_takeFirst_11 rfl (lv_at hl 1 rfl) ?_
  refine va_get (D := D) (ci := 3) (v := .int (nI ff)) (C := RX3) (T := TX3) (N := 6) hx hb hts inX3_takeFirst_X3 hown hK hP 0 rfl rfl 4 (by decide) (hts (.fieldLink RX3 24 "ScrambledLine$Outbox" "firstFrame" "I") (by decide +kernel)) (fun _ h9 => h9) rfl dX3_takeFirst_12 ?_
  refine lv_iconst (v := nI 1) hx hb dX3_takeFirst_15 rfl ?_
  refine lv_iadd hx hb dX3_takeFirst_16 ?_
  refine lv_to (y := nI (ff + 1)) (nI_add ff 1) ?_
  refine lv_iconst (v := nI 4) hx hb dX3_takeFirst_17 rfl ?_
  refine lv_irem hx hb dX3_takeFirst_18 (by decide) ?_
  refine lv_to (y := nI ((ff + 1) % 4)) (pk_rem (by omega) (by decide) (by decide)) ?_
  refine va_put (D := D) (ci := 3) (v := .int (nI ((ff + 1) % 4))) (ty := .int) (C := RX3) (T := TX3) (N := 6) hx hb hts inX3_takeFirst_X3 tyX3 tyX3_ok nmX3 hown hK hP hD hS 0 rfl rfl 4 (by decide) (hts (.fieldLink RX3 24 "ScrambledLine$Outbox" "firstFrame" "I") (by decide +kernel)) (fun _ h9 => h9) rfl (by decide +kernel) rfl rfl (Nat.le_of_ble_eq_true rfl) dX3_takeFirst_19 (fun H locs hP hD hS => ?_)
  have hP : va_P D vwCl [(h0, .inr (3, [.int (nI src), .ref ga, .int (nI gl), .ref fa, .int (nI ((ff + 1) % 4)), .int (nI fc)])), (fa, .inl (cG, 4, .inr (.inr (.inr (.inr (gq4 r0 r1 r2 r3))))))] H := hP
  have hD : va_D A [(h0, .inr (3, [.int (nI src), .ref ga, .int (nI gl), .ref fa, .int (nI ((ff + 1) % 4)), .int (nI fc)])), (fa, .inl (cG, 4, .inr (.inr (.inr (.inr (gq4 r0 r1 r2 r3))))))] := hD
  refine lv_aload_n hx hb dX3_takeFirst_22 rfl (lv_at hl 1 rfl) ?_
  refine lv_dup hx hb dX3_takeFirst_23 rfl ?_
  refine va_get (D := D) (ci := 3) (v := .int (nI fc)) (C := RX3) (T := TX3) (N := 6) hx hb hts inX3_takeFirst_X3 hown hK hP 0 rfl rfl 5 (by decide) (hts (.fieldLink RX3 27 "ScrambledLine$Outbox" "frameCount" "I") (by decide +kernel)) (fun _ h9 => h9) rfl dX3_takeFirst_24 ?_
  refine lv_iconst (v := nI 1) hx hb dX3_takeFirst_27 rfl ?_
  refine lv_isub hx hb dX3_takeFirst_28 ?_
  refine lv_to (y := nI (fc - 1)) (pk_sub (a := fc) (b := 1) (by omega)) ?_
  refine va_put (D := D) (ci := 3) (v := .int (nI (fc - 1))) (ty := .int) (C := RX3) (T := TX3) (N := 6) hx hb hts inX3_takeFirst_X3 tyX3 tyX3_ok nmX3 hown hK hP hD hS 0 rfl rfl 5 (by decide) (hts (.fieldLink RX3 27 "ScrambledLine$Outbox" "frameCount" "I") (by decide +kernel)) (fun _ h9 => h9) rfl (by decide +kernel) rfl rfl (Nat.le_of_ble_eq_true rfl) dX3_takeFirst_29 (fun H locs hP hD hS => ?_)
  have hP : va_P D vwCl [(h0, .inr (3, [.int (nI src), .ref ga, .int (nI gl), .ref fa, .int (nI ((ff + 1) % 4)), .int (nI (fc - 1))])), (fa, .inl (cG, 4, .inr (.inr (.inr (.inr (gq4 r0 r1 r2 r3))))))] H := hP
  have hD : va_D A [(h0, .inr (3, [.int (nI src), .ref ga, .int (nI gl), .ref fa, .int (nI ((ff + 1) % 4)), .int (nI (fc - 1))])), (fa, .inl (cG, 4, .inr (.inr (.inr (.inr (gq4 r0 r1 r2 r3))))))] := hD
  refine lv_aload_n hx hb dX3_takeFirst_32 rfl (lv_at hl 0 rfl) ?_
  refine W_q hQ ?_
  exact rt_r () hx hb hr (Or.inr ⟨_, rfl⟩) hlocks dX3_takeFirst_33 hS hP hD rfl
