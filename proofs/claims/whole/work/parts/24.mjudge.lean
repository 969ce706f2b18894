/-- the nibbles, as the reference holds them -/
def NB (nbf : Nat → Int32) (nb : Nat) (nf : Nat → Nat) : Prop := ∀ i, i < nb → nbf i = nI (nf i) ∧ nf i < 16
theorem upd_s {F : Nat → Nat} {y : Nat → Int32} {i : Nat} (h : ∀ j, j < i → y j = nI (F j)) : ∀ j, j < i + 1 → upd y i (nI (F i)) j = nI (F j) := fun j hj => by
  by_cases e : j = i
  · subst e; exact pk_us
  · rw [pk_un e]; exact h j (by omega)
theorem ckb_s {nf : Nat → Nat} {sz k : Nat} (h : ∀ j, j < k → ckb nf sz j = true) (e : byt nf (sz - 4 + k) = (rcv nf sz).toBitVec.toNat / 2 ^ (8 * k) % 256) : ∀ j, j < k + 1 → ckb nf sz j = true := fun j hj => by
  by_cases q : j = k
  · subst q; exact decide_eq_true e
  · exact h j (by omega)
theorem ckb_of {nf : Nat → Nat} {sz k : Nat} (h : ckOK nf sz = true) (hk : k < 4) : byt nf (sz - 4 + k) = (rcv nf sz).toBitVec.toNat / 2 ^ (8 * k) % 256 := by
  unfold ckOK at h
  simp only [Bool.and_eq_true] at h
  rcases (show k = 0 ∨ k = 1 ∨ k = 2 ∨ k = 3 by omega) with rfl | rfl | rfl | rfl
  · exact of_decide_eq_true h.1.1.1
  · exact of_decide_eq_true h.1.1.2
  · exact of_decide_eq_true h.1.2
  · exact of_decide_eq_true h.2
theorem ckOK_4 {nf : Nat → Nat} {sz k : Nat} (hk : k = 4) (h : ∀ j, j < k → ckb nf sz j = true) : ckOK nf sz = true := by
  subst hk
  unfold ckOK
  rw [h 0 (by decide), h 1 (by decide), h 2 (by decide), h 3 (by decide)]
  rfl
theorem jb {k j : Nat} {P R : Prop} (e : nI k = nI j) (h0 : 0 < k) (hk : k < 100) (q : R) : nI k = nI j ∧ (j = 0 → P) ∧ (¬ j = 0 → R) := by
  refine ⟨e, fun z => ?_, fun _ => q⟩
  subst z
  exact absurd ((nI_eq (by omega) (by omega)).mp e) (by omega)
theorem jd_00 {tgt nb : Nat} {st fa : Bool} {nf : Nat → Nat} (h : st = true) (h2 : fa = false) (h3 : nb % 2 = 0) (h4 : 13 ≤ nb / 2) (h5 : ckOK nf (nb / 2) = true) (h6 : ¬ 24 < byt nf 2) (h7 : nb / 2 = fsz (byt nf 2) + 4) (h8 : byt nf 0 = tgt ∨ byt nf 0 = 255) : jdg tgt st fa nb nf = 0 := by unfold jdg; rw [if_neg (by rw [h]; decide), if_neg (by rw [h2]; decide), if_neg (by omega), if_neg (by omega), if_neg (by rw [h5]; decide), if_neg (fun q => q.elim h6 (fun z => z h7)), if_neg (fun q => h8.elim q.1 q.2)]
theorem inX8_judge_X8 : ∀ w ∈ u_ws RX8 TX8 38, w ∈ wsX8_judge := by decide +kernel
set_option maxHeartbeats 4000000 in
set_option maxRecDepth 100000 in
theorem c_X8_judge (l : Launch) (D : va_G) (cI cG : ClassId) (tt : Nat × Nat × Nat) (sz : Nat) (h0 : Nat) (a_gift : Nat) (a_queue : Nat) (a_bits : Nat) (a_bytes : Nat) (a_hitTime : Nat) (a_hitLevel : Nat) (a_nibble : Nat) (a_counts : Nat) (a_good : Nat) (v_ownSource : Int32) (tgt : Nat) (v_given : Int32) (v_frames : Int32) (v_bitCount : Int32) (v_bitAt : Int32) (v_inFrame : Int32) (v_idle : Int32) (v_register : Int32) (v_phase : Int32) (v_size : Int32) (v_now : Int32) (v_got : Int32) (v_ear : Int32) (v_run : Int32) (v_locked : Int32) (v_reads : Int32) (v_quiet : Int32) (v_ones : Int32) (v_last : Int32) (v_heard : Int32) (v_ending : Int32) (st : Bool) (fa : Bool) (nb : Nat) (v_ended : Int32) (any : Bool) (v_goodSource : Int32) (v_goodLength : Int32) (yf : Nat → Int32) (nbf : Nat → Int32) (gf : Nat → Int32) (nf : Nat → Nat) (ht : tgt < 256) (hnb : nb ≤ 80) (hN : NB nbf nb nf) : Met l yX8_judge wsX8_judge ({ frames := 1, cells := 0, slots := 0, locals := 24 }) (PC D cI cG tt [.ref h0] [(h0, .inr (8, [.int v_ownSource, .int (nI tgt), .int v_given, .ref a_gift, .int v_frames, .ref a_queue, .int v_bitCount, .int v_bitAt, .ref a_bits, .int v_inFrame, .int v_idle, .int v_register, .int v_phase, .int v_size, .ref a_bytes, .int v_now, .ref a_hitTime, .ref a_hitLevel, .int v_got, .int v_ear, .int v_run, .int v_locked, .int v_reads, .int v_quiet, .int v_ones, .int v_last, .int v_heard, .int v_ending, .int (bI st), .int (bI fa), .int (nI nb), .ref a_nibble, .ref a_counts, .int v_ended, .int (bI any), .int v_goodSource, .int v_goodLength, .ref a_good])), (a_bytes, .inl (cI, 48, .inl yf)), (a_nibble, .inl (cI, 100, .inl nbf)), (a_good, .inl (cI, 24, .inl gf))] sz) (QI (fun (r : Int32) (u : Int32 × (Nat → Int32) × Bool × Int32 × Int32 × (Nat → Int32)) => match u with | (sz2, yf2, any2, gs2, gl2, gf2) => r = nI (jdg tgt st fa nb nf) ∧ (jdg tgt st fa nb nf = 0 → any2 = true ∧ gs2 = nI (byt nf 1) ∧ gl2 = nI (byt nf 2) ∧ ∀ i, i < byt nf 2 → gf2 i = nI (byt nf (3 + i))) ∧ (¬ jdg tgt st fa nb nf = 0 → any2 = any ∧ gs2 = v_goodSource ∧ gl2 = v_goodLength ∧ gf2 = gf)) (fun (u : Int32 × (Nat → Int32) × Bool × Int32 × Int32 × (Nat → Int32)) => match u with | (sz2, yf2, any2, gs2, gl2, gf2) => [(h0, .inr (8, [.int v_ownSource, .int (nI tgt), .int v_given, .ref a_gift, .int v_frames, .ref a_queue, .int v_bitCount, .int v_bitAt, .ref a_bits, .int v_inFrame, .int v_idle, .int v_register, .int v_phase, .int sz2, .ref a_bytes, .int v_now, .ref a_hitTime, .ref a_hitLevel, .int v_got, .int v_ear, .int v_run, .int v_locked, .int v_reads, .int v_quiet, .int v_ones, .int v_last, .int v_heard, .int v_ending, .int (bI st), .int (bI fa), .int (nI nb), .ref a_nibble, .ref a_counts, .int v_ended, .int (bI any2), .int gs2, .int gl2, .ref a_good])), (a_bytes, .inl (cI, 48, .inl yf2)), (a_nibble, .inl (cI, 100, .inl nbf)), (a_good, .inl (cI, 24, .inl gf2))]) D (va_A [(h0, .inr (8, [.int v_ownSource, .int (nI tgt), .int v_given, .ref a_gift, .int v_frames, .ref a_queue, .int v_bitCount, .int v_bitAt, .ref a_bits, .int v_inFrame, .int v_idle, .int v_register, .int v_phase, .int v_size, .ref a_bytes, .int v_now, .ref a_hitTime, .ref a_hitLevel, .int v_got, .int v_ear, .int v_run, .int v_locked, .int v_reads, .int v_quiet, .int v_ones, .int v_last, .int v_heard, .int v_ending, .int (bI st), .int (bI fa), .int (nI nb), .ref a_nibble, .ref a_counts, .int v_ended, .int (bI any), .int v_goodSource, .int v_goodLength, .ref a_good])), (a_bytes, .inl (cI, 48, .inl yf)), (a_nibble, .inl (cI, 100, .inl nbf)), (a_good, .inl (cI, 24, .inl gf))] sz)) 0 0 (va_A [(h0, .inr (8, [.int v_ownSource, .int (nI tgt), .int v_given, .ref a_gift, .int v_frames, .ref a_queue, .int v_bitCount, .int v_bitAt, .ref a_bits, .int v_inFrame, .int v_idle, .int v_register, .int v_phase, .int v_size, .ref a_bytes, .int v_now, .ref a_hitTime, .ref a_hitLevel, .int v_got, .int v_ear, .int v_run, .int v_locked, .int v_reads, .int v_quiet, .int v_ones, .int v_last, .int v_heard, .int v_ending, .int (bI st), .int (bI fa), .int (nI nb), .ref a_nibble, .ref a_counts, .int v_ended, .int (bI any), .int v_goodSource, .int v_goodLength, .ref a_good])), (a_bytes, .inl (cI, 48, .inl yf)), (a_nibble, .inl (cI, 100, .inl nbf)), (a_good, .inl (cI, 24, .inl gf))] sz) := by
  refine ct_of (y := yX8_judge) (cc := cX8_judge) (maxL := 4) (ret := (some .int)) (Qf := QI (fun (r : Int32) (u : Int32 × (Nat → Int32) × Bool × Int32 × Int32 × (Nat → Int32)) => match u with | (sz2, yf2, any2, gs2, gl2, gf2) => r = nI (jdg tgt st fa nb nf) ∧ (jdg tgt st fa nb nf = 0 → any2 = true ∧ gs2 = nI (byt nf 1) ∧ gl2 = nI (byt nf 2) ∧ ∀ i, i < byt nf 2 → gf2 i = nI (byt nf (3 + i))) ∧ (¬ jdg tgt st fa nb nf = 0 → any2 = any ∧ gs2 = v_goodSource ∧ gl2 = v_goodLength ∧ gf2 = gf)) (fun (u : Int32 × (Nat → Int32) × Bool × Int32 × Int32 × (Nat → Int32)) => match u with | (sz2, yf2, any2, gs2, gl2, gf2) => [(h0, .inr (8, [.int v_ownSource, .int (nI tgt), .int v_given, .ref a_gift, .int v_frames, .ref a_queue, .int v_bitCount, .int v_bitAt, .ref a_bits, .int v_inFrame, .int v_idle, .int v_register, .int v_phase, .int sz2, .ref a_bytes, .int v_now, .ref a_hitTime, .ref a_hitLevel, .int v_got, .int v_ear, .int v_run, .int v_locked, .int v_reads, .int v_quiet, .int v_ones, .int v_last, .int v_heard, .int v_ending, .int (bI st), .int (bI fa), .int (nI nb), .ref a_nibble, .ref a_counts, .int v_ended, .int (bI any2), .int gs2, .int gl2, .ref a_good])), (a_bytes, .inl (cI, 48, .inl yf2)), (a_nibble, .inl (cI, 100, .inl nbf)), (a_good, .inl (cI, 24, .inl gf2))]) D) (by decide) rfl ?_
  intro p e s m args below meth c A Q R H locs hR hQ hx hb hml hr hts hown hlocks hin hP hD hE hT hA hS
  have hK := hE.1
  have hl := lv_entry ([.ref h0]) (n := 4) (Nat.le_of_ble_eq_true rfl)
  rw [lg_entry_eq]
  generalize (lg_sl ([.ref h0]) ++ List.replicate (4 - (lg_sl ([.ref h0])).length) Slot.unset).toArray = ls at hl ⊢
  have hl : lv_has ls 4 [(0, .ref h0)] := hl
  refine lv_aload_n hx hb dX8_judge_0 rfl (lv_at hl 0 rfl) ?_
  refine va_get (D := D) (ci := 8) (v := .int (bI st)) (C := RX8) (T := TX8) (N := 38) hx hb hts inX8_judge_X8 hown hK hP 0 rfl rfl 28 (by decide) (hts (.fieldLink RX8 155 "ScrambledLineModel" "started" "Z") (by decide +kernel)) (fun _ h9 => h9) rfl dX8_judge_1 ?_
  refine lv_if_ne (tgt := 9) hx hb dX8_judge_4 (by decide) (fun c4 => ?_) (fun c4 => ?_)
  · skip
    have k4 : st = true := bI_t c4
    refine lv_aload_n hx hb dX8_judge_9 rfl (lv_at hl 0 rfl) ?_
    refine va_get (D := D) (ci := 8) (v := .int (bI fa)) (C := RX8) (T := TX8) (N := 38) hx hb hts inX8_judge_X8 hown hK hP 0 rfl rfl 29 (by decide) (hts (.fieldLink RX8 158 "ScrambledLineModel" "faulty" "Z") (by decide +kernel)) (fun _ h9 => h9) rfl dX8_judge_10 ?_
    refine lv_if_eq (tgt := 18) hx hb dX8_judge_13 (by decide) (fun c13 => ?_) (fun c13 => ?_)
    · skip
      have k13 : fa = false := bI_f c13
      refine lv_aload_n hx hb dX8_judge_18 rfl (lv_at hl 0 rfl) ?_
      refine va_get (D := D) (ci := 8) (v := .int (nI nb)) (C := RX8) (T := TX8) (N := 38) hx hb hts inX8_judge_X8 hown hK hP 0 rfl rfl 30 (by decide) (hts (.fieldLink RX8 161 "ScrambledLineModel" "nibbles" "I") (by decide +kernel)) (fun _ h9 => h9) rfl dX8_judge_19 ?_
      refine lv_iconst (v := nI 2) hx hb dX8_judge_22 rfl ?_
      refine lv_irem hx hb dX8_judge_23 (by decide) ?_
      refine lv_to (y := nI (nb % 2)) (pk_rem (by omega) (by decide) (by decide)) ?_
      refine lv_iconst (v := nI 1) hx hb dX8_judge_24 rfl ?_
      refine lv_icmp_ne (tgt := 30) hx hb dX8_judge_25 (by decide) (fun c25 => ?_) (fun c25 => ?_)
      · skip
        have k25 : ¬ (nb % 2) = 1 := fun zq => c25 ((nI_eq (a := (nb % 2)) (b := 1) (by omega) (by omega)).mpr zq)
        refine lv_aload_n hx hb dX8_judge_30 rfl (lv_at hl 0 rfl) ?_
        refine va_get (D := D) (ci := 8) (v := .int (nI nb)) (C := RX8) (T := TX8) (N := 38) hx hb hts inX8_judge_X8 hown hK hP 0 rfl rfl 30 (by decide) (hts (.fieldLink RX8 161 "ScrambledLineModel" "nibbles" "I") (by decide +kernel)) (fun _ h9 => h9) rfl dX8_judge_31 ?_
        refine lv_bipush (v := nI 26) hx hb dX8_judge_34 rfl ?_
        refine lv_icmp_ge (tgt := 41) hx hb dX8_judge_36 (by decide) (fun c36 => ?_) (fun c36 => ?_)
        · skip
          have k36 : 26 ≤ nb := (nI_leI (a := 26) (b := nb) (by omega) (by omega)).mp c36
          have hev : nb % 2 = 0 := by omega
          have h26 : 13 ≤ nb / 2 := by omega
          have hbl : ∀ j, j < nb / 2 → byt nf j < 256 := fun j hj => byt_lt (fun i hi => (hN i hi).2) (by omega)
          refine lv_aload_n hx hb dX8_judge_41 rfl (lv_at hl 0 rfl) ?_
          refine lv_aload_n hx hb dX8_judge_42 rfl (lv_at hl 0 rfl) ?_
          refine va_get (D := D) (ci := 8) (v := .int (nI nb)) (C := RX8) (T := TX8) (N := 38) hx hb hts inX8_judge_X8 hown hK hP 0 rfl rfl 30 (by decide) (hts (.fieldLink RX8 161 "ScrambledLineModel" "nibbles" "I") (by decide +kernel)) (fun _ h9 => h9) rfl dX8_judge_43 ?_
          refine lv_iconst (v := nI 2) hx hb dX8_judge_46 rfl ?_
          refine lv_idiv hx hb dX8_judge_47 (by decide) ?_
          refine lv_to (y := nI (nb / 2)) (pk_div (by omega) (by decide) (by decide)) ?_
          refine va_put (D := D) (ci := 8) (v := .int (nI (nb / 2))) (ty := .int) (C := RX8) (T := TX8) (N := 38) hx hb hts inX8_judge_X8 tyX8 tyX8_ok nmX8 hown hK hP hD hS 0 rfl rfl 13 (by decide) (hts (.fieldLink RX8 65 "ScrambledLineModel" "size" "I") (by decide +kernel)) (fun _ h9 => h9) rfl (by decide +kernel) rfl rfl (Nat.le_of_ble_eq_true rfl) dX8_judge_48 (fun H locs hP hD hS => ?_)
          have hP : va_P D vwCl [(h0, .inr (8, [.int v_ownSource, .int (nI tgt), .int v_given, .ref a_gift, .int v_frames, .ref a_queue, .int v_bitCount, .int v_bitAt, .ref a_bits, .int v_inFrame, .int v_idle, .int v_register, .int v_phase, .int (nI (nb / 2)), .ref a_bytes, .int v_now, .ref a_hitTime, .ref a_hitLevel, .int v_got, .int v_ear, .int v_run, .int v_locked, .int v_reads, .int v_quiet, .int v_ones, .int v_last, .int v_heard, .int v_ending, .int (bI st), .int (bI fa), .int (nI nb), .ref a_nibble, .ref a_counts, .int v_ended, .int (bI any), .int v_goodSource, .int v_goodLength, .ref a_good])), (a_bytes, .inl (cI, 48, .inl yf)), (a_nibble, .inl (cI, 100, .inl nbf)), (a_good, .inl (cI, 24, .inl gf))] H := hP
          have hD : va_D A [(h0, .inr (8, [.int v_ownSource, .int (nI tgt), .int v_given, .ref a_gift, .int v_frames, .ref a_queue, .int v_bitCount, .int v_bitAt, .ref a_bits, .int v_inFrame, .int v_idle, .int v_register, .int v_phase, .int (nI (nb / 2)), .ref a_bytes, .int v_now, .ref a_hitTime, .ref a_hitLevel, .int v_got, .int v_ear, .int v_run, .int v_locked, .int v_reads, .int v_quiet, .int v_ones, .int v_last, .int v_heard, .int v_ending, .int (bI st), .int (bI fa), .int (nI nb), .ref a_nibble, .ref a_counts, .int v_ended, .int (bI any), .int v_goodSource, .int v_goodLength, .ref a_good])), (a_bytes, .inl (cI, 48, .inl yf)), (a_nibble, .inl (cI, 100, .inl nbf)), (a_good, .inl (cI, 24, .inl gf))] := hD
          refine lv_iconst (v := nI 0) hx hb dX8_judge_51 rfl ?_
          refine lv_istore_n (lv' := [(1, .int (nI 0)), (0, .ref h0)]) hx hb dX8_judge_52 rfl hl (by decide) rfl (fun ls hl => ?_)
          have L53 : ∀ (fu53 : Nat), ∀ (i : Nat) (y : Nat → Int32), (i ≤ nb / 2) → (∀ j, j < i → y j = nI (byt nf j)) → nb / 2 - i < fu53 → ∀ (H : Heap) (locs : List Loc), va_P D vwCl [(h0, .inr (8, [.int v_ownSource, .int (nI tgt), .int v_given, .ref a_gift, .int v_frames, .ref a_queue, .int v_bitCount, .int v_bitAt, .ref a_bits, .int v_inFrame, .int v_idle, .int v_register, .int v_phase, .int (nI (nb / 2)), .ref a_bytes, .int v_now, .ref a_hitTime, .ref a_hitLevel, .int v_got, .int v_ear, .int v_run, .int v_locked, .int v_reads, .int v_quiet, .int v_ones, .int v_last, .int v_heard, .int v_ending, .int (bI st), .int (bI fa), .int (nI nb), .ref a_nibble, .ref a_counts, .int v_ended, .int (bI any), .int v_goodSource, .int v_goodLength, .ref a_good])), (a_bytes, .inl (cI, 48, .inl y)), (a_nibble, .inl (cI, 100, .inl nbf)), (a_good, .inl (cI, 24, .inl gf))] H → va_D A [(h0, .inr (8, [.int v_ownSource, .int (nI tgt), .int v_given, .ref a_gift, .int v_frames, .ref a_queue, .int v_bitCount, .int v_bitAt, .ref a_bits, .int v_inFrame, .int v_idle, .int v_register, .int v_phase, .int (nI (nb / 2)), .ref a_bytes, .int v_now, .ref a_hitTime, .ref a_hitLevel, .int v_got, .int v_ear, .int v_run, .int v_locked, .int v_reads, .int v_quiet, .int v_ones, .int v_last, .int v_heard, .int v_ending, .int (bI st), .int (bI fa), .int (nI nb), .ref a_nibble, .ref a_counts, .int v_ended, .int (bI any), .int v_goodSource, .int v_goodLength, .ref a_good])), (a_bytes, .inl (cI, 48, .inl y)), (a_nibble, .inl (cI, 100, .inl nbf)), (a_good, .inl (cI, 24, .inl gf))] → va_S A s.heap H locs → ∀ ls : Array Slot, lv_has ls 4 [(1, .int (nI i)), (0, .ref h0)] → W p l e R s m args below meth c H locs 0 0 Q (F0 m 53 ls []) := by
            intro fu53
            induction fu53 with
            | zero => intro i y hi hy hm53; exact absurd hm53 (Nat.not_lt_zero _)
            | succ fu53 ih53 =>
              intro i y hi hy hm53 H locs hP hD hS ls hl
              refine lv_iload_n hx hb dX8_judge_53 rfl (lv_at hl 0 rfl) ?_
              refine lv_aload_n hx hb dX8_judge_54 rfl (lv_at hl 1 rfl) ?_
              refine va_get (D := D) (ci := 8) (v := .int (nI (nb / 2))) (C := RX8) (T := TX8) (N := 38) hx hb hts inX8_judge_X8 hown hK hP 0 rfl rfl 13 (by decide) (hts (.fieldLink RX8 65 "ScrambledLineModel" "size" "I") (by decide +kernel)) (fun _ h9 => h9) rfl dX8_judge_55 ?_
              refine lv_icmp_ge (tgt := 95) hx hb dX8_judge_58 (by decide) (fun c58 => ?_) (fun c58 => ?_)
              · skip
                have k58 : (nb / 2) ≤ i := (nI_leI (a := (nb / 2)) (b := i) (by omega) (by omega)).mp c58
                refine lv_aload_n hx hb dX8_judge_95 rfl (lv_at hl 1 rfl) ?_
                have hby : ∀ j, j < nb / 2 → y j = nI (byt nf j) ∧ byt nf j < 256 := fun j hj => ⟨hy j (by omega), hbl j hj⟩
                refine lv_aload_n hx hb dX8_judge_96 rfl (lv_at hl 1 rfl) ?_
                refine va_get (D := D) (ci := 8) (v := .int (nI (nb / 2))) (C := RX8) (T := TX8) (N := 38) hx hb hts inX8_judge_X8 hown hK hP 0 rfl rfl 13 (by decide) (hts (.fieldLink RX8 65 "ScrambledLineModel" "size" "I") (by decide +kernel)) (fun _ h9 => h9) rfl dX8_judge_97 ?_
                refine lv_iconst (v := nI 4) hx hb dX8_judge_100 rfl ?_
                refine lv_isub hx hb dX8_judge_101 ?_
                refine lv_to (y := nI ((nb / 2) - 4)) (pk_sub (a := (nb / 2)) (b := 4) (by omega)) ?_
                refine ca_i (wr := [(a_nibble, .inl (cI, 100, .inl nbf)), (a_good, .inl (cI, 24, .inl gf))]) (ru_V (As := [.int (nI ((nb / 2) - 4))]) (rest := []) ⟨hx, hb, hml, hown, hts⟩ (c_X8_check l D cI cG tt H.size h0 a_gift a_queue a_bits a_bytes a_hitTime a_hitLevel a_nibble a_counts a_good v_ownSource (nI tgt) v_given v_frames v_bitCount v_bitAt v_inFrame v_idle v_register v_phase (nI (nb / 2)) v_now v_got v_ear v_run v_locked v_reads v_quiet v_ones v_last v_heard v_ending (bI st) (bI fa) (nI nb) v_ended (bI any) v_goodSource v_goodLength y ((nb / 2) - 4) (by omega)) (cwV 1 hts gX8_judge_X8_check rfl rfl rfl (by decide +kernel) ⟨by rw [hR]; exact Nat.le_of_ble_eq_true rfl, by rw [hR]; exact Nat.le_of_ble_eq_true rfl⟩) hP hD hE hT hS hA [0, 1] rfl (by decide) (va_recv hK hP (ci := 8) (q0 := 0) rfl rfl) rfl hl.1 rfl (Nat.le_of_ble_eq_true rfl) dX8_judge_102 ⟨by rw [hR]; exact Nat.le_of_ble_eq_true rfl, by rw [hR]; exact Nat.le_of_ble_eq_true rfl⟩) hP hD hS hA [0, 1] [2, 3] rfl rfl (by decide) (by decide) (fun r102 u H locs hw hP hD hS => ?_)
                obtain rfl := hw
                have hP : va_P D vwCl [(a_nibble, .inl (cI, 100, .inl nbf)), (a_good, .inl (cI, 24, .inl gf)), (h0, .inr (8, [.int v_ownSource, .int (nI tgt), .int v_given, .ref a_gift, .int v_frames, .ref a_queue, .int v_bitCount, .int v_bitAt, .ref a_bits, .int v_inFrame, .int v_idle, .int v_register, .int v_phase, .int (nI (nb / 2)), .ref a_bytes, .int v_now, .ref a_hitTime, .ref a_hitLevel, .int v_got, .int v_ear, .int v_run, .int v_locked, .int v_reads, .int v_quiet, .int v_ones, .int v_last, .int v_heard, .int v_ending, .int (bI st), .int (bI fa), .int (nI nb), .ref a_nibble, .ref a_counts, .int v_ended, .int (bI any), .int v_goodSource, .int v_goodLength, .ref a_good])), (a_bytes, .inl (cI, 48, .inl y))] H := hP
                have hD : va_D A [(a_nibble, .inl (cI, 100, .inl nbf)), (a_good, .inl (cI, 24, .inl gf)), (h0, .inr (8, [.int v_ownSource, .int (nI tgt), .int v_given, .ref a_gift, .int v_frames, .ref a_queue, .int v_bitCount, .int v_bitAt, .ref a_bits, .int v_inFrame, .int v_idle, .int v_register, .int v_phase, .int (nI (nb / 2)), .ref a_bytes, .int v_now, .ref a_hitTime, .ref a_hitLevel, .int v_got, .int v_ear, .int v_run, .int v_locked, .int v_reads, .int v_quiet, .int v_ones, .int v_last, .int v_heard, .int v_ending, .int (bI st), .int (bI fa), .int (nI nb), .ref a_nibble, .ref a_counts, .int v_ended, .int (bI any), .int v_goodSource, .int v_goodLength, .ref a_good])), (a_bytes, .inl (cI, 48, .inl y))] := hD
                refine lv_to (y := rcv nf (nb / 2)) (rcv_c hby) ?_
                refine lv_istore_n (lv' := [(1, .int (rcv nf (nb / 2))), (0, .ref h0)]) hx hb dX8_judge_105 rfl hl (by decide) rfl (fun ls hl => ?_)
                refine lv_iconst (v := nI 0) hx hb dX8_judge_106 rfl ?_
                refine lv_istore_n (lv' := [(2, .int (nI 0)), (1, .int (rcv nf (nb / 2))), (0, .ref h0)]) hx hb dX8_judge_107 rfl hl (by decide) rfl (fun ls hl => ?_)
                have L108 : ∀ (fu108 : Nat), ∀ (k2 : Nat), (k2 ≤ 4) → (∀ j, j < k2 → ckb nf (nb / 2) j = true) → 4 - k2 < fu108 → ∀ (H : Heap) (locs : List Loc), va_P D vwCl [(a_nibble, .inl (cI, 100, .inl nbf)), (a_good, .inl (cI, 24, .inl gf)), (h0, .inr (8, [.int v_ownSource, .int (nI tgt), .int v_given, .ref a_gift, .int v_frames, .ref a_queue, .int v_bitCount, .int v_bitAt, .ref a_bits, .int v_inFrame, .int v_idle, .int v_register, .int v_phase, .int (nI (nb / 2)), .ref a_bytes, .int v_now, .ref a_hitTime, .ref a_hitLevel, .int v_got, .int v_ear, .int v_run, .int v_locked, .int v_reads, .int v_quiet, .int v_ones, .int v_last, .int v_heard, .int v_ending, .int (bI st), .int (bI fa), .int (nI nb), .ref a_nibble, .ref a_counts, .int v_ended, .int (bI any), .int v_goodSource, .int v_goodLength, .ref a_good])), (a_bytes, .inl (cI, 48, .inl y))] H → va_D A [(a_nibble, .inl (cI, 100, .inl nbf)), (a_good, .inl (cI, 24, .inl gf)), (h0, .inr (8, [.int v_ownSource, .int (nI tgt), .int v_given, .ref a_gift, .int v_frames, .ref a_queue, .int v_bitCount, .int v_bitAt, .ref a_bits, .int v_inFrame, .int v_idle, .int v_register, .int v_phase, .int (nI (nb / 2)), .ref a_bytes, .int v_now, .ref a_hitTime, .ref a_hitLevel, .int v_got, .int v_ear, .int v_run, .int v_locked, .int v_reads, .int v_quiet, .int v_ones, .int v_last, .int v_heard, .int v_ending, .int (bI st), .int (bI fa), .int (nI nb), .ref a_nibble, .ref a_counts, .int v_ended, .int (bI any), .int v_goodSource, .int v_goodLength, .ref a_good])), (a_bytes, .inl (cI, 48, .inl y))] → va_S A s.heap H locs → ∀ ls : Array Slot, lv_has ls 4 [(2, .int (nI k2)), (1, .int (rcv nf (nb / 2))), (0, .ref h0)] → W p l e R s m args below meth c H locs 0 0 Q (F0 m 108 ls []) := by
                  intro fu108
                  induction fu108 with
                  | zero => intro k2 hk2 hk2s hm108; exact absurd hm108 (Nat.not_lt_zero _)
                  | succ fu108 ih108 =>
                    intro k2 hk2 hk2s hm108 H locs hP hD hS ls hl
                    refine lv_iload_n hx hb dX8_judge_108 rfl (lv_at hl 0 rfl) ?_
                    refine lv_iconst (v := nI 4) hx hb dX8_judge_109 rfl ?_
                    refine lv_icmp_ge (tgt := 147) hx hb dX8_judge_110 (by decide) (fun c110 => ?_) (fun c110 => ?_)
                    · skip
                      have k110 : 4 ≤ k2 := (nI_leI (a := 4) (b := k2) (by omega) (by omega)).mp c110
                      have hck : ckOK nf (nb / 2) = true := ckOK_4 (show k2 = 4 by omega) hk2s
                      refine lv_aload_n hx hb dX8_judge_147 rfl (lv_at hl 2 rfl) ?_
                      refine va_get (D := D) (ci := 8) (v := .ref a_bytes) (C := RX8) (T := TX8) (N := 38) hx hb hts inX8_judge_X8 hown hK hP 2 rfl rfl 14 (by decide) (hts (.fieldLink RX8 19 "ScrambledLineModel" "bytes" "[I") (by decide +kernel)) (fun _ h9 => h9) rfl dX8_judge_148 ?_
                      refine lv_iconst (v := nI 2) hx hb dX8_judge_151 rfl ?_
                      refine gl_i hx hb hK hP 3 rfl (i := 2) (by omega) (by first | decide | omega) dX8_judge_152 ?_
                      refine lv_to (y := nI (byt nf 2)) ((hby 2 (by omega)).1) ?_
                      have hy2 := (hby 2 (by omega)).2
                      refine lv_istore_n (lv' := [(2, .int (nI (byt nf 2))), (1, .int (rcv nf (nb / 2))), (0, .ref h0)]) hx hb dX8_judge_153 rfl hl (by decide) rfl (fun ls hl => ?_)
                      refine lv_iload_n hx hb dX8_judge_154 rfl (lv_at hl 0 rfl) ?_
                      refine lv_bipush (v := nI 24) hx hb dX8_judge_155 rfl ?_
                      refine lv_icmp_gt (tgt := 182) hx hb dX8_judge_157 (by decide) (fun c157 => ?_) (fun c157 => ?_)
                      · skip
                        have k157 : 24 < (byt nf 2) := (nI_ltI (a := 24) (b := (byt nf 2)) (by omega) (by omega)).mp c157
                        refine lv_bipush (v := nI 6) hx hb dX8_judge_182 rfl ?_
                        refine W_q hQ ?_
                        exact rt_i (nI (nb / 2), y, any, v_goodSource, v_goodLength, gf) hx hb hr hlocks dX8_judge_184 hS (hP.sub [2, 3, 0, 1] rfl) (hD.sub [2, 3, 0, 1] (by decide) rfl) (jb (k := 6) (jd_6 k4 k13 hev h26 hck (Or.inl k157)) (by decide) (by decide) ⟨rfl, rfl, rfl, rfl⟩)
                      · skip
                        have k157 : ¬ 24 < (byt nf 2) := fun zq => c157 ((nI_ltI (a := 24) (b := (byt nf 2)) (by omega) (by omega)).mpr zq)
                        refine lv_aload_n hx hb dX8_judge_160 rfl (lv_at hl 2 rfl) ?_
                        refine va_get (D := D) (ci := 8) (v := .int (nI (nb / 2))) (C := RX8) (T := TX8) (N := 38) hx hb hts inX8_judge_X8 hown hK hP 2 rfl rfl 13 (by decide) (hts (.fieldLink RX8 65 "ScrambledLineModel" "size" "I") (by decide +kernel)) (fun _ h9 => h9) rfl dX8_judge_161 ?_
                        refine lv_bipush (v := nI 7) hx hb dX8_judge_164 rfl ?_
                        refine lv_iload_n hx hb dX8_judge_166 rfl (lv_at hl 0 rfl) ?_
                        refine lv_bipush (v := nI 6) hx hb dX8_judge_167 rfl ?_
                        have L178 : ∀ (_ : Unit), ∀ (H : Heap) (locs : List Loc), va_P D vwCl [(a_nibble, .inl (cI, 100, .inl nbf)), (a_good, .inl (cI, 24, .inl gf)), (h0, .inr (8, [.int v_ownSource, .int (nI tgt), .int v_given, .ref a_gift, .int v_frames, .ref a_queue, .int v_bitCount, .int v_bitAt, .ref a_bits, .int v_inFrame, .int v_idle, .int v_register, .int v_phase, .int (nI (nb / 2)), .ref a_bytes, .int v_now, .ref a_hitTime, .ref a_hitLevel, .int v_got, .int v_ear, .int v_run, .int v_locked, .int v_reads, .int v_quiet, .int v_ones, .int v_last, .int v_heard, .int v_ending, .int (bI st), .int (bI fa), .int (nI nb), .ref a_nibble, .ref a_counts, .int v_ended, .int (bI any), .int v_goodSource, .int v_goodLength, .ref a_good])), (a_bytes, .inl (cI, 48, .inl y))] H → va_D A [(a_nibble, .inl (cI, 100, .inl nbf)), (a_good, .inl (cI, 24, .inl gf)), (h0, .inr (8, [.int v_ownSource, .int (nI tgt), .int v_given, .ref a_gift, .int v_frames, .ref a_queue, .int v_bitCount, .int v_bitAt, .ref a_bits, .int v_inFrame, .int v_idle, .int v_register, .int v_phase, .int (nI (nb / 2)), .ref a_bytes, .int v_now, .ref a_hitTime, .ref a_hitLevel, .int v_got, .int v_ear, .int v_run, .int v_locked, .int v_reads, .int v_quiet, .int v_ones, .int v_last, .int v_heard, .int v_ending, .int (bI st), .int (bI fa), .int (nI nb), .ref a_nibble, .ref a_counts, .int v_ended, .int (bI any), .int v_goodSource, .int v_goodLength, .ref a_good])), (a_bytes, .inl (cI, 48, .inl y))] → va_S A s.heap H locs → ∀ ls : Array Slot, lv_has ls 4 [(2, .int (nI (byt nf 2))), (1, .int (rcv nf (nb / 2))), (0, .ref h0)] → W p l e R s m args below meth c H locs 0 0 Q (F0 m 178 ls [.int (nI (max (byt nf 2) 6)), .int (nI 7), .int (nI (nb / 2))]) := by
                          intro _  H locs hP hD hS ls hl
                          refine lv_iadd hx hb dX8_judge_178 ?_
                          refine lv_to (y := nI (7 + (max (byt nf 2) 6))) (nI_add 7 (max (byt nf 2) 6)) ?_
                          refine lv_icmp_eq (tgt := 185) hx hb dX8_judge_179 (by decide) (fun c179 => ?_) (fun c179 => ?_)
                          · skip
                            have k179 : (nb / 2) = (7 + (max (byt nf 2) 6)) := (nI_eq (a := (nb / 2)) (b := (7 + (max (byt nf 2) 6))) (by omega) (by omega)).mp c179
                            have h7 : nb / 2 = fsz (byt nf 2) + 4 := by unfold fsz; omega
                            refine lv_aload_n hx hb dX8_judge_185 rfl (lv_at hl 2 rfl) ?_
                            refine va_get (D := D) (ci := 8) (v := .ref a_bytes) (C := RX8) (T := TX8) (N := 38) hx hb hts inX8_judge_X8 hown hK hP 2 rfl rfl 14 (by decide) (hts (.fieldLink RX8 19 "ScrambledLineModel" "bytes" "[I") (by decide +kernel)) (fun _ h9 => h9) rfl dX8_judge_186 ?_
                            refine lv_iconst (v := nI 0) hx hb dX8_judge_189 rfl ?_
                            refine gl_i hx hb hK hP 3 rfl (i := 0) (by omega) (by first | decide | omega) dX8_judge_190 ?_
                            refine lv_to (y := nI (byt nf 0)) ((hby 0 (by omega)).1) ?_
                            have hy0 := (hby 0 (by omega)).2
                            refine lv_aload_n hx hb dX8_judge_191 rfl (lv_at hl 2 rfl) ?_
                            refine va_get (D := D) (ci := 8) (v := .int (nI tgt)) (C := RX8) (T := TX8) (N := 38) hx hb hts inX8_judge_X8 hown hK hP 2 rfl rfl 1 (by decide) (hts (.fieldLink RX8 44 "ScrambledLineModel" "ownTarget" "I") (by decide +kernel)) (fun _ h9 => h9) rfl dX8_judge_192 ?_
                            refine lv_icmp_eq (tgt := 213) hx hb dX8_judge_195 (by decide) (fun c195 => ?_) (fun c195 => ?_)
                            · skip
                              have k195 : (byt nf 0) = tgt := (nI_eq (a := (byt nf 0)) (b := tgt) (by omega) (by omega)).mp c195
                              refine lv_aload_n hx hb dX8_judge_213 rfl (lv_at hl 2 rfl) ?_
                              refine lv_iconst (v := nI 1) hx hb dX8_judge_214 rfl ?_
                              refine va_put (D := D) (ci := 8) (v := .int (nI 1)) (ty := .boolean) (C := RX8) (T := TX8) (N := 38) hx hb hts inX8_judge_X8 tyX8 tyX8_ok nmX8 hown hK hP hD hS 2 rfl rfl 34 (by decide) (hts (.fieldLink RX8 170 "ScrambledLineModel" "any" "Z") (by decide +kernel)) (fun _ h9 => h9) rfl (by decide +kernel) rfl rfl (Nat.le_of_ble_eq_true rfl) dX8_judge_215 (fun H locs hP hD hS => ?_)
                              have hP : va_P D vwCl [(a_nibble, .inl (cI, 100, .inl nbf)), (a_good, .inl (cI, 24, .inl gf)), (h0, .inr (8, [.int v_ownSource, .int (nI tgt), .int v_given, .ref a_gift, .int v_frames, .ref a_queue, .int v_bitCount, .int v_bitAt, .ref a_bits, .int v_inFrame, .int v_idle, .int v_register, .int v_phase, .int (nI (nb / 2)), .ref a_bytes, .int v_now, .ref a_hitTime, .ref a_hitLevel, .int v_got, .int v_ear, .int v_run, .int v_locked, .int v_reads, .int v_quiet, .int v_ones, .int v_last, .int v_heard, .int v_ending, .int (bI st), .int (bI fa), .int (nI nb), .ref a_nibble, .ref a_counts, .int v_ended, .int (nI 1), .int v_goodSource, .int v_goodLength, .ref a_good])), (a_bytes, .inl (cI, 48, .inl y))] H := hP
                              have hD : va_D A [(a_nibble, .inl (cI, 100, .inl nbf)), (a_good, .inl (cI, 24, .inl gf)), (h0, .inr (8, [.int v_ownSource, .int (nI tgt), .int v_given, .ref a_gift, .int v_frames, .ref a_queue, .int v_bitCount, .int v_bitAt, .ref a_bits, .int v_inFrame, .int v_idle, .int v_register, .int v_phase, .int (nI (nb / 2)), .ref a_bytes, .int v_now, .ref a_hitTime, .ref a_hitLevel, .int v_got, .int v_ear, .int v_run, .int v_locked, .int v_reads, .int v_quiet, .int v_ones, .int v_last, .int v_heard, .int v_ending, .int (bI st), .int (bI fa), .int (nI nb), .ref a_nibble, .ref a_counts, .int v_ended, .int (nI 1), .int v_goodSource, .int v_goodLength, .ref a_good])), (a_bytes, .inl (cI, 48, .inl y))] := hD
                              refine lv_aload_n hx hb dX8_judge_218 rfl (lv_at hl 2 rfl) ?_
                              refine lv_aload_n hx hb dX8_judge_219 rfl (lv_at hl 2 rfl) ?_
                              refine va_get (D := D) (ci := 8) (v := .ref a_bytes) (C := RX8) (T := TX8) (N := 38) hx hb hts inX8_judge_X8 hown hK hP 2 rfl rfl 14 (by decide) (hts (.fieldLink RX8 19 "ScrambledLineModel" "bytes" "[I") (by decide +kernel)) (fun _ h9 => h9) rfl dX8_judge_220 ?_
                              refine lv_iconst (v := nI 1) hx hb dX8_judge_223 rfl ?_
                              refine gl_i hx hb hK hP 3 rfl (i := 1) (by omega) (by first | decide | omega) dX8_judge_224 ?_
                              refine lv_to (y := nI (byt nf 1)) ((hby 1 (by omega)).1) ?_
                              refine va_put (D := D) (ci := 8) (v := .int (nI (byt nf 1))) (ty := .int) (C := RX8) (T := TX8) (N := 38) hx hb hts inX8_judge_X8 tyX8 tyX8_ok nmX8 hown hK hP hD hS 2 rfl rfl 35 (by decide) (hts (.fieldLink RX8 173 "ScrambledLineModel" "goodSource" "I") (by decide +kernel)) (fun _ h9 => h9) rfl (by decide +kernel) rfl rfl (Nat.le_of_ble_eq_true rfl) dX8_judge_225 (fun H locs hP hD hS => ?_)
                              have hP : va_P D vwCl [(a_nibble, .inl (cI, 100, .inl nbf)), (a_good, .inl (cI, 24, .inl gf)), (h0, .inr (8, [.int v_ownSource, .int (nI tgt), .int v_given, .ref a_gift, .int v_frames, .ref a_queue, .int v_bitCount, .int v_bitAt, .ref a_bits, .int v_inFrame, .int v_idle, .int v_register, .int v_phase, .int (nI (nb / 2)), .ref a_bytes, .int v_now, .ref a_hitTime, .ref a_hitLevel, .int v_got, .int v_ear, .int v_run, .int v_locked, .int v_reads, .int v_quiet, .int v_ones, .int v_last, .int v_heard, .int v_ending, .int (bI st), .int (bI fa), .int (nI nb), .ref a_nibble, .ref a_counts, .int v_ended, .int (nI 1), .int (nI (byt nf 1)), .int v_goodLength, .ref a_good])), (a_bytes, .inl (cI, 48, .inl y))] H := hP
                              have hD : va_D A [(a_nibble, .inl (cI, 100, .inl nbf)), (a_good, .inl (cI, 24, .inl gf)), (h0, .inr (8, [.int v_ownSource, .int (nI tgt), .int v_given, .ref a_gift, .int v_frames, .ref a_queue, .int v_bitCount, .int v_bitAt, .ref a_bits, .int v_inFrame, .int v_idle, .int v_register, .int v_phase, .int (nI (nb / 2)), .ref a_bytes, .int v_now, .ref a_hitTime, .ref a_hitLevel, .int v_got, .int v_ear, .int v_run, .int v_locked, .int v_reads, .int v_quiet, .int v_ones, .int v_last, .int v_heard, .int v_ending, .int (bI st), .int (bI fa), .int (nI nb), .ref a_nibble, .ref a_counts, .int v_ended, .int (nI 1), .int (nI (byt nf 1)), .int v_goodLength, .ref a_good])), (a_bytes, .inl (cI, 48, .inl y))] := hD
                              refine lv_aload_n hx hb dX8_judge_228 rfl (lv_at hl 2 rfl) ?_
                              refine lv_iload_n hx hb dX8_judge_229 rfl (lv_at hl 0 rfl) ?_
                              refine va_put (D := D) (ci := 8) (v := .int (nI (byt nf 2))) (ty := .int) (C := RX8) (T := TX8) (N := 38) hx hb hts inX8_judge_X8 tyX8 tyX8_ok nmX8 hown hK hP hD hS 2 rfl rfl 36 (by decide) (hts (.fieldLink RX8 176 "ScrambledLineModel" "goodLength" "I") (by decide +kernel)) (fun _ h9 => h9) rfl (by decide +kernel) rfl rfl (Nat.le_of_ble_eq_true rfl) dX8_judge_230 (fun H locs hP hD hS => ?_)
                              have hP : va_P D vwCl [(a_nibble, .inl (cI, 100, .inl nbf)), (a_good, .inl (cI, 24, .inl gf)), (h0, .inr (8, [.int v_ownSource, .int (nI tgt), .int v_given, .ref a_gift, .int v_frames, .ref a_queue, .int v_bitCount, .int v_bitAt, .ref a_bits, .int v_inFrame, .int v_idle, .int v_register, .int v_phase, .int (nI (nb / 2)), .ref a_bytes, .int v_now, .ref a_hitTime, .ref a_hitLevel, .int v_got, .int v_ear, .int v_run, .int v_locked, .int v_reads, .int v_quiet, .int v_ones, .int v_last, .int v_heard, .int v_ending, .int (bI st), .int (bI fa), .int (nI nb), .ref a_nibble, .ref a_counts, .int v_ended, .int (nI 1), .int (nI (byt nf 1)), .int (nI (byt nf 2)), .ref a_good])), (a_bytes, .inl (cI, 48, .inl y))] H := hP
                              have hD : va_D A [(a_nibble, .inl (cI, 100, .inl nbf)), (a_good, .inl (cI, 24, .inl gf)), (h0, .inr (8, [.int v_ownSource, .int (nI tgt), .int v_given, .ref a_gift, .int v_frames, .ref a_queue, .int v_bitCount, .int v_bitAt, .ref a_bits, .int v_inFrame, .int v_idle, .int v_register, .int v_phase, .int (nI (nb / 2)), .ref a_bytes, .int v_now, .ref a_hitTime, .ref a_hitLevel, .int v_got, .int v_ear, .int v_run, .int v_locked, .int v_reads, .int v_quiet, .int v_ones, .int v_last, .int v_heard, .int v_ending, .int (bI st), .int (bI fa), .int (nI nb), .ref a_nibble, .ref a_counts, .int v_ended, .int (nI 1), .int (nI (byt nf 1)), .int (nI (byt nf 2)), .ref a_good])), (a_bytes, .inl (cI, 48, .inl y))] := hD
                              refine lv_iconst (v := nI 0) hx hb dX8_judge_233 rfl ?_
                              refine lv_istore_n (lv' := [(3, .int (nI 0)), (2, .int (nI (byt nf 2))), (1, .int (rcv nf (nb / 2))), (0, .ref h0)]) hx hb dX8_judge_234 rfl hl (by decide) rfl (fun ls hl => ?_)
                              have L235 : ∀ (fu235 : Nat), ∀ (i3 : Nat) (g3 : Nat → Int32), (i3 ≤ byt nf 2) → (∀ j, j < i3 → g3 j = nI (byt nf (3 + j))) → byt nf 2 - i3 < fu235 → ∀ (H : Heap) (locs : List Loc), va_P D vwCl [(a_nibble, .inl (cI, 100, .inl nbf)), (a_good, .inl (cI, 24, .inl g3)), (h0, .inr (8, [.int v_ownSource, .int (nI tgt), .int v_given, .ref a_gift, .int v_frames, .ref a_queue, .int v_bitCount, .int v_bitAt, .ref a_bits, .int v_inFrame, .int v_idle, .int v_register, .int v_phase, .int (nI (nb / 2)), .ref a_bytes, .int v_now, .ref a_hitTime, .ref a_hitLevel, .int v_got, .int v_ear, .int v_run, .int v_locked, .int v_reads, .int v_quiet, .int v_ones, .int v_last, .int v_heard, .int v_ending, .int (bI st), .int (bI fa), .int (nI nb), .ref a_nibble, .ref a_counts, .int v_ended, .int (nI 1), .int (nI (byt nf 1)), .int (nI (byt nf 2)), .ref a_good])), (a_bytes, .inl (cI, 48, .inl y))] H → va_D A [(a_nibble, .inl (cI, 100, .inl nbf)), (a_good, .inl (cI, 24, .inl g3)), (h0, .inr (8, [.int v_ownSource, .int (nI tgt), .int v_given, .ref a_gift, .int v_frames, .ref a_queue, .int v_bitCount, .int v_bitAt, .ref a_bits, .int v_inFrame, .int v_idle, .int v_register, .int v_phase, .int (nI (nb / 2)), .ref a_bytes, .int v_now, .ref a_hitTime, .ref a_hitLevel, .int v_got, .int v_ear, .int v_run, .int v_locked, .int v_reads, .int v_quiet, .int v_ones, .int v_last, .int v_heard, .int v_ending, .int (bI st), .int (bI fa), .int (nI nb), .ref a_nibble, .ref a_counts, .int v_ended, .int (nI 1), .int (nI (byt nf 1)), .int (nI (byt nf 2)), .ref a_good])), (a_bytes, .inl (cI, 48, .inl y))] → va_S A s.heap H locs → ∀ ls : Array Slot, lv_has ls 4 [(3, .int (nI i3)), (2, .int (nI (byt nf 2))), (1, .int (rcv nf (nb / 2))), (0, .ref h0)] → W p l e R s m args below meth c H locs 0 0 Q (F0 m 235 ls []) := by
                                intro fu235
                                induction fu235 with
                                | zero => intro i3 g3 hi3 hg3 hm235; exact absurd hm235 (Nat.not_lt_zero _)
                                | succ fu235 ih235 =>
                                  intro i3 g3 hi3 hg3 hm235 H locs hP hD hS ls hl
                                  refine lv_iload_n hx hb dX8_judge_235 rfl (lv_at hl 0 rfl) ?_
                                  refine lv_iload_n hx hb dX8_judge_236 rfl (lv_at hl 1 rfl) ?_
                                  refine lv_icmp_ge (tgt := 260) hx hb dX8_judge_237 (by decide) (fun c237 => ?_) (fun c237 => ?_)
                                  · skip
                                    have k237 : (byt nf 2) ≤ i3 := (nI_leI (a := (byt nf 2)) (b := i3) (by omega) (by omega)).mp c237
                                    refine lv_iconst (v := nI 0) hx hb dX8_judge_260 rfl ?_
                                    refine W_q hQ ?_
                                    exact rt_i (nI (nb / 2), y, true, nI (byt nf 1), nI (byt nf 2), g3) hx hb hr hlocks dX8_judge_261 hS (hP.sub [2, 3, 0, 1] rfl) (hD.sub [2, 3, 0, 1] (by decide) rfl) (⟨jd_0 k4 k13 hev h26 hck k157 h7 (Or.inl k195), fun _ => ⟨rfl, rfl, rfl, fun j hj => hg3 j (by omega)⟩, fun zq => absurd (jd_00 k4 k13 hev h26 hck k157 h7 (Or.inl k195)) zq⟩)
                                  · skip
                                    have k237 : ¬ (byt nf 2) ≤ i3 := fun zq => c237 ((nI_leI (a := (byt nf 2)) (b := i3) (by omega) (by omega)).mpr zq)
                                    refine lv_aload_n hx hb dX8_judge_240 rfl (lv_at hl 3 rfl) ?_
                                    refine va_get (D := D) (ci := 8) (v := .ref a_good) (C := RX8) (T := TX8) (N := 38) hx hb hts inX8_judge_X8 hown hK hP 2 rfl rfl 37 (by decide) (hts (.fieldLink RX8 34 "ScrambledLineModel" "good" "[I") (by decide +kernel)) (fun _ h9 => h9) rfl dX8_judge_241 ?_
                                    refine lv_iload_n hx hb dX8_judge_244 rfl (lv_at hl 0 rfl) ?_
                                    refine lv_aload_n hx hb dX8_judge_245 rfl (lv_at hl 3 rfl) ?_
                                    refine va_get (D := D) (ci := 8) (v := .ref a_bytes) (C := RX8) (T := TX8) (N := 38) hx hb hts inX8_judge_X8 hown hK hP 2 rfl rfl 14 (by decide) (hts (.fieldLink RX8 19 "ScrambledLineModel" "bytes" "[I") (by decide +kernel)) (fun _ h9 => h9) rfl dX8_judge_246 ?_
                                    refine lv_iconst (v := nI 3) hx hb dX8_judge_249 rfl ?_
                                    refine lv_iload_n hx hb dX8_judge_250 rfl (lv_at hl 0 rfl) ?_
                                    refine lv_iadd hx hb dX8_judge_251 ?_
                                    refine lv_to (y := nI (3 + i3)) (nI_add 3 i3) ?_
                                    refine gl_i hx hb hK hP 3 rfl (i := (3 + i3)) (by omega) (by first | decide | omega) dX8_judge_252 ?_
                                    refine lv_to (y := nI (byt nf (3 + i3))) ((hby _ (by omega)).1) ?_
                                    refine gs_i hx hb hK hP hD hS 1 rfl (i := i3) (x := nI (byt nf (3 + i3))) (by omega) (by first | decide | omega) dX8_judge_253 (fun H locs hP hD hS => ?_)
                                    have hP : va_P D vwCl [(a_nibble, .inl (cI, 100, .inl nbf)), (a_good, .inl (cI, 24, .inl (upd g3 i3 (nI (byt nf (3 + i3)))))), (h0, .inr (8, [.int v_ownSource, .int (nI tgt), .int v_given, .ref a_gift, .int v_frames, .ref a_queue, .int v_bitCount, .int v_bitAt, .ref a_bits, .int v_inFrame, .int v_idle, .int v_register, .int v_phase, .int (nI (nb / 2)), .ref a_bytes, .int v_now, .ref a_hitTime, .ref a_hitLevel, .int v_got, .int v_ear, .int v_run, .int v_locked, .int v_reads, .int v_quiet, .int v_ones, .int v_last, .int v_heard, .int v_ending, .int (bI st), .int (bI fa), .int (nI nb), .ref a_nibble, .ref a_counts, .int v_ended, .int (nI 1), .int (nI (byt nf 1)), .int (nI (byt nf 2)), .ref a_good])), (a_bytes, .inl (cI, 48, .inl y))] H := hP
                                    have hD : va_D A [(a_nibble, .inl (cI, 100, .inl nbf)), (a_good, .inl (cI, 24, .inl (upd g3 i3 (nI (byt nf (3 + i3)))))), (h0, .inr (8, [.int v_ownSource, .int (nI tgt), .int v_given, .ref a_gift, .int v_frames, .ref a_queue, .int v_bitCount, .int v_bitAt, .ref a_bits, .int v_inFrame, .int v_idle, .int v_register, .int v_phase, .int (nI (nb / 2)), .ref a_bytes, .int v_now, .ref a_hitTime, .ref a_hitLevel, .int v_got, .int v_ear, .int v_run, .int v_locked, .int v_reads, .int v_quiet, .int v_ones, .int v_last, .int v_heard, .int v_ending, .int (bI st), .int (bI fa), .int (nI nb), .ref a_nibble, .ref a_counts, .int v_ended, .int (nI 1), .int (nI (byt nf 1)), .int (nI (byt nf 2)), .ref a_good])), (a_bytes, .inl (cI, 48, .inl y))] := hD
                                    refine lv_iinc (v := nI (i3 + 1)) (lv' := [(3, .int (nI (i3 + 1))), (2, .int (nI (byt nf 2))), (1, .int (rcv nf (nb / 2))), (0, .ref h0)]) hx hb dX8_judge_254 hl (k := 0) rfl (nI_add i3 1) (by decide) rfl (fun ls hl => ?_)
                                    refine lv_goto (tgt := 235) hx hb dX8_judge_257 (by decide) ?_
                                    exact ih235 (i3 + 1) (upd g3 i3 (nI (byt nf (3 + i3)))) (by omega) (upd_s (F := fun j => byt nf (3 + j)) hg3) (by omega) _ _ hP hD hS _ (lv_sub hl [0, 1, 2, 3] rfl)
                              exact L235 _ 0 gf (Nat.zero_le _) (fun j h => absurd h (Nat.not_lt_zero _)) (Nat.lt_succ_self _) _ _ hP hD hS _ (lv_sub hl [0, 1, 2, 3] rfl)
                            · skip
                              have k195 : ¬ (byt nf 0) = tgt := fun zq => c195 ((nI_eq (a := (byt nf 0)) (b := tgt) (by omega) (by omega)).mpr zq)
                              refine lv_aload_n hx hb dX8_judge_198 rfl (lv_at hl 2 rfl) ?_
                              refine va_get (D := D) (ci := 8) (v := .ref a_bytes) (C := RX8) (T := TX8) (N := 38) hx hb hts inX8_judge_X8 hown hK hP 2 rfl rfl 14 (by decide) (hts (.fieldLink RX8 19 "ScrambledLineModel" "bytes" "[I") (by decide +kernel)) (fun _ h9 => h9) rfl dX8_judge_199 ?_
                              refine lv_iconst (v := nI 0) hx hb dX8_judge_202 rfl ?_
                              refine gl_i hx hb hK hP 3 rfl (i := 0) (by omega) (by first | decide | omega) dX8_judge_203 ?_
                              refine lv_to (y := nI (byt nf 0)) ((hby 0 (by omega)).1) ?_
                              refine lv_sipush (v := nI 255) hx hb dX8_judge_204 rfl ?_
                              refine lv_icmp_eq (tgt := 213) hx hb dX8_judge_207 (by decide) (fun c207 => ?_) (fun c207 => ?_)
                              · skip
                                have k207 : (byt nf 0) = 255 := (nI_eq (a := (byt nf 0)) (b := 255) (by omega) (by omega)).mp c207
                                refine lv_aload_n hx hb dX8_judge_213 rfl (lv_at hl 2 rfl) ?_
                                refine lv_iconst (v := nI 1) hx hb dX8_judge_214 rfl ?_
                                refine va_put (D := D) (ci := 8) (v := .int (nI 1)) (ty := .boolean) (C := RX8) (T := TX8) (N := 38) hx hb hts inX8_judge_X8 tyX8 tyX8_ok nmX8 hown hK hP hD hS 2 rfl rfl 34 (by decide) (hts (.fieldLink RX8 170 "ScrambledLineModel" "any" "Z") (by decide +kernel)) (fun _ h9 => h9) rfl (by decide +kernel) rfl rfl (Nat.le_of_ble_eq_true rfl) dX8_judge_215 (fun H locs hP hD hS => ?_)
                                have hP : va_P D vwCl [(a_nibble, .inl (cI, 100, .inl nbf)), (a_good, .inl (cI, 24, .inl gf)), (h0, .inr (8, [.int v_ownSource, .int (nI tgt), .int v_given, .ref a_gift, .int v_frames, .ref a_queue, .int v_bitCount, .int v_bitAt, .ref a_bits, .int v_inFrame, .int v_idle, .int v_register, .int v_phase, .int (nI (nb / 2)), .ref a_bytes, .int v_now, .ref a_hitTime, .ref a_hitLevel, .int v_got, .int v_ear, .int v_run, .int v_locked, .int v_reads, .int v_quiet, .int v_ones, .int v_last, .int v_heard, .int v_ending, .int (bI st), .int (bI fa), .int (nI nb), .ref a_nibble, .ref a_counts, .int v_ended, .int (nI 1), .int v_goodSource, .int v_goodLength, .ref a_good])), (a_bytes, .inl (cI, 48, .inl y))] H := hP
                                have hD : va_D A [(a_nibble, .inl (cI, 100, .inl nbf)), (a_good, .inl (cI, 24, .inl gf)), (h0, .inr (8, [.int v_ownSource, .int (nI tgt), .int v_given, .ref a_gift, .int v_frames, .ref a_queue, .int v_bitCount, .int v_bitAt, .ref a_bits, .int v_inFrame, .int v_idle, .int v_register, .int v_phase, .int (nI (nb / 2)), .ref a_bytes, .int v_now, .ref a_hitTime, .ref a_hitLevel, .int v_got, .int v_ear, .int v_run, .int v_locked, .int v_reads, .int v_quiet, .int v_ones, .int v_last, .int v_heard, .int v_ending, .int (bI st), .int (bI fa), .int (nI nb), .ref a_nibble, .ref a_counts, .int v_ended, .int (nI 1), .int v_goodSource, .int v_goodLength, .ref a_good])), (a_bytes, .inl (cI, 48, .inl y))] := hD
                                refine lv_aload_n hx hb dX8_judge_218 rfl (lv_at hl 2 rfl) ?_
                                refine lv_aload_n hx hb dX8_judge_219 rfl (lv_at hl 2 rfl) ?_
                                refine va_get (D := D) (ci := 8) (v := .ref a_bytes) (C := RX8) (T := TX8) (N := 38) hx hb hts inX8_judge_X8 hown hK hP 2 rfl rfl 14 (by decide) (hts (.fieldLink RX8 19 "ScrambledLineModel" "bytes" "[I") (by decide +kernel)) (fun _ h9 => h9) rfl dX8_judge_220 ?_
                                refine lv_iconst (v := nI 1) hx hb dX8_judge_223 rfl ?_
                                refine gl_i hx hb hK hP 3 rfl (i := 1) (by omega) (by first | decide | omega) dX8_judge_224 ?_
                                refine lv_to (y := nI (byt nf 1)) ((hby 1 (by omega)).1) ?_
                                refine va_put (D := D) (ci := 8) (v := .int (nI (byt nf 1))) (ty := .int) (C := RX8) (T := TX8) (N := 38) hx hb hts inX8_judge_X8 tyX8 tyX8_ok nmX8 hown hK hP hD hS 2 rfl rfl 35 (by decide) (hts (.fieldLink RX8 173 "ScrambledLineModel" "goodSource" "I") (by decide +kernel)) (fun _ h9 => h9) rfl (by decide +kernel) rfl rfl (Nat.le_of_ble_eq_true rfl) dX8_judge_225 (fun H locs hP hD hS => ?_)
                                have hP : va_P D vwCl [(a_nibble, .inl (cI, 100, .inl nbf)), (a_good, .inl (cI, 24, .inl gf)), (h0, .inr (8, [.int v_ownSource, .int (nI tgt), .int v_given, .ref a_gift, .int v_frames, .ref a_queue, .int v_bitCount, .int v_bitAt, .ref a_bits, .int v_inFrame, .int v_idle, .int v_register, .int v_phase, .int (nI (nb / 2)), .ref a_bytes, .int v_now, .ref a_hitTime, .ref a_hitLevel, .int v_got, .int v_ear, .int v_run, .int v_locked, .int v_reads, .int v_quiet, .int v_ones, .int v_last, .int v_heard, .int v_ending, .int (bI st), .int (bI fa), .int (nI nb), .ref a_nibble, .ref a_counts, .int v_ended, .int (nI 1), .int (nI (byt nf 1)), .int v_goodLength, .ref a_good])), (a_bytes, .inl (cI, 48, .inl y))] H := hP
                                have hD : va_D A [(a_nibble, .inl (cI, 100, .inl nbf)), (a_good, .inl (cI, 24, .inl gf)), (h0, .inr (8, [.int v_ownSource, .int (nI tgt), .int v_given, .ref a_gift, .int v_frames, .ref a_queue, .int v_bitCount, .int v_bitAt, .ref a_bits, .int v_inFrame, .int v_idle, .int v_register, .int v_phase, .int (nI (nb / 2)), .ref a_bytes, .int v_now, .ref a_hitTime, .ref a_hitLevel, .int v_got, .int v_ear, .int v_run, .int v_locked, .int v_reads, .int v_quiet, .int v_ones, .int v_last, .int v_heard, .int v_ending, .int (bI st), .int (bI fa), .int (nI nb), .ref a_nibble, .ref a_counts, .int v_ended, .int (nI 1), .int (nI (byt nf 1)), .int v_goodLength, .ref a_good])), (a_bytes, .inl (cI, 48, .inl y))] := hD
                                refine lv_aload_n hx hb dX8_judge_228 rfl (lv_at hl 2 rfl) ?_
                                refine lv_iload_n hx hb dX8_judge_229 rfl (lv_at hl 0 rfl) ?_
                                refine va_put (D := D) (ci := 8) (v := .int (nI (byt nf 2))) (ty := .int) (C := RX8) (T := TX8) (N := 38) hx hb hts inX8_judge_X8 tyX8 tyX8_ok nmX8 hown hK hP hD hS 2 rfl rfl 36 (by decide) (hts (.fieldLink RX8 176 "ScrambledLineModel" "goodLength" "I") (by decide +kernel)) (fun _ h9 => h9) rfl (by decide +kernel) rfl rfl (Nat.le_of_ble_eq_true rfl) dX8_judge_230 (fun H locs hP hD hS => ?_)
                                have hP : va_P D vwCl [(a_nibble, .inl (cI, 100, .inl nbf)), (a_good, .inl (cI, 24, .inl gf)), (h0, .inr (8, [.int v_ownSource, .int (nI tgt), .int v_given, .ref a_gift, .int v_frames, .ref a_queue, .int v_bitCount, .int v_bitAt, .ref a_bits, .int v_inFrame, .int v_idle, .int v_register, .int v_phase, .int (nI (nb / 2)), .ref a_bytes, .int v_now, .ref a_hitTime, .ref a_hitLevel, .int v_got, .int v_ear, .int v_run, .int v_locked, .int v_reads, .int v_quiet, .int v_ones, .int v_last, .int v_heard, .int v_ending, .int (bI st), .int (bI fa), .int (nI nb), .ref a_nibble, .ref a_counts, .int v_ended, .int (nI 1), .int (nI (byt nf 1)), .int (nI (byt nf 2)), .ref a_good])), (a_bytes, .inl (cI, 48, .inl y))] H := hP
                                have hD : va_D A [(a_nibble, .inl (cI, 100, .inl nbf)), (a_good, .inl (cI, 24, .inl gf)), (h0, .inr (8, [.int v_ownSource, .int (nI tgt), .int v_given, .ref a_gift, .int v_frames, .ref a_queue, .int v_bitCount, .int v_bitAt, .ref a_bits, .int v_inFrame, .int v_idle, .int v_register, .int v_phase, .int (nI (nb / 2)), .ref a_bytes, .int v_now, .ref a_hitTime, .ref a_hitLevel, .int v_got, .int v_ear, .int v_run, .int v_locked, .int v_reads, .int v_quiet, .int v_ones, .int v_last, .int v_heard, .int v_ending, .int (bI st), .int (bI fa), .int (nI nb), .ref a_nibble, .ref a_counts, .int v_ended, .int (nI 1), .int (nI (byt nf 1)), .int (nI (byt nf 2)), .ref a_good])), (a_bytes, .inl (cI, 48, .inl y))] := hD
                                refine lv_iconst (v := nI 0) hx hb dX8_judge_233 rfl ?_
                                refine lv_istore_n (lv' := [(3, .int (nI 0)), (2, .int (nI (byt nf 2))), (1, .int (rcv nf (nb / 2))), (0, .ref h0)]) hx hb dX8_judge_234 rfl hl (by decide) rfl (fun ls hl => ?_)
                                have L235 : ∀ (fu235 : Nat), ∀ (i3 : Nat) (g3 : Nat → Int32), (i3 ≤ byt nf 2) → (∀ j, j < i3 → g3 j = nI (byt nf (3 + j))) → byt nf 2 - i3 < fu235 → ∀ (H : Heap) (locs : List Loc), va_P D vwCl [(a_nibble, .inl (cI, 100, .inl nbf)), (a_good, .inl (cI, 24, .inl g3)), (h0, .inr (8, [.int v_ownSource, .int (nI tgt), .int v_given, .ref a_gift, .int v_frames, .ref a_queue, .int v_bitCount, .int v_bitAt, .ref a_bits, .int v_inFrame, .int v_idle, .int v_register, .int v_phase, .int (nI (nb / 2)), .ref a_bytes, .int v_now, .ref a_hitTime, .ref a_hitLevel, .int v_got, .int v_ear, .int v_run, .int v_locked, .int v_reads, .int v_quiet, .int v_ones, .int v_last, .int v_heard, .int v_ending, .int (bI st), .int (bI fa), .int (nI nb), .ref a_nibble, .ref a_counts, .int v_ended, .int (nI 1), .int (nI (byt nf 1)), .int (nI (byt nf 2)), .ref a_good])), (a_bytes, .inl (cI, 48, .inl y))] H → va_D A [(a_nibble, .inl (cI, 100, .inl nbf)), (a_good, .inl (cI, 24, .inl g3)), (h0, .inr (8, [.int v_ownSource, .int (nI tgt), .int v_given, .ref a_gift, .int v_frames, .ref a_queue, .int v_bitCount, .int v_bitAt, .ref a_bits, .int v_inFrame, .int v_idle, .int v_register, .int v_phase, .int (nI (nb / 2)), .ref a_bytes, .int v_now, .ref a_hitTime, .ref a_hitLevel, .int v_got, .int v_ear, .int v_run, .int v_locked, .int v_reads, .int v_quiet, .int v_ones, .int v_last, .int v_heard, .int v_ending, .int (bI st), .int (bI fa), .int (nI nb), .ref a_nibble, .ref a_counts, .int v_ended, .int (nI 1), .int (nI (byt nf 1)), .int (nI (byt nf 2)), .ref a_good])), (a_bytes, .inl (cI, 48, .inl y))] → va_S A s.heap H locs → ∀ ls : Array Slot, lv_has ls 4 [(3, .int (nI i3)), (2, .int (nI (byt nf 2))), (1, .int (rcv nf (nb / 2))), (0, .ref h0)] → W p l e R s m args below meth c H locs 0 0 Q (F0 m 235 ls []) := by
                                  intro fu235
                                  induction fu235 with
                                  | zero => intro i3 g3 hi3 hg3 hm235; exact absurd hm235 (Nat.not_lt_zero _)
                                  | succ fu235 ih235 =>
                                    intro i3 g3 hi3 hg3 hm235 H locs hP hD hS ls hl
                                    refine lv_iload_n hx hb dX8_judge_235 rfl (lv_at hl 0 rfl) ?_
                                    refine lv_iload_n hx hb dX8_judge_236 rfl (lv_at hl 1 rfl) ?_
                                    refine lv_icmp_ge (tgt := 260) hx hb dX8_judge_237 (by decide) (fun c237 => ?_) (fun c237 => ?_)
                                    · skip
                                      have k237 : (byt nf 2) ≤ i3 := (nI_leI (a := (byt nf 2)) (b := i3) (by omega) (by omega)).mp c237
                                      refine lv_iconst (v := nI 0) hx hb dX8_judge_260 rfl ?_
                                      refine W_q hQ ?_
                                      exact rt_i (nI (nb / 2), y, true, nI (byt nf 1), nI (byt nf 2), g3) hx hb hr hlocks dX8_judge_261 hS (hP.sub [2, 3, 0, 1] rfl) (hD.sub [2, 3, 0, 1] (by decide) rfl) (⟨jd_0 k4 k13 hev h26 hck k157 h7 (Or.inr k207), fun _ => ⟨rfl, rfl, rfl, fun j hj => hg3 j (by omega)⟩, fun zq => absurd (jd_00 k4 k13 hev h26 hck k157 h7 (Or.inr k207)) zq⟩)
                                    · skip
                                      have k237 : ¬ (byt nf 2) ≤ i3 := fun zq => c237 ((nI_leI (a := (byt nf 2)) (b := i3) (by omega) (by omega)).mpr zq)
                                      refine lv_aload_n hx hb dX8_judge_240 rfl (lv_at hl 3 rfl) ?_
                                      refine va_get (D := D) (ci := 8) (v := .ref a_good) (C := RX8) (T := TX8) (N := 38) hx hb hts inX8_judge_X8 hown hK hP 2 rfl rfl 37 (by decide) (hts (.fieldLink RX8 34 "ScrambledLineModel" "good" "[I") (by decide +kernel)) (fun _ h9 => h9) rfl dX8_judge_241 ?_
                                      refine lv_iload_n hx hb dX8_judge_244 rfl (lv_at hl 0 rfl) ?_
                                      refine lv_aload_n hx hb dX8_judge_245 rfl (lv_at hl 3 rfl) ?_
                                      refine va_get (D := D) (ci := 8) (v := .ref a_bytes) (C := RX8) (T := TX8) (N := 38) hx hb hts inX8_judge_X8 hown hK hP 2 rfl rfl 14 (by decide) (hts (.fieldLink RX8 19 "ScrambledLineModel" "bytes" "[I") (by decide +kernel)) (fun _ h9 => h9) rfl dX8_judge_246 ?_
                                      refine lv_iconst (v := nI 3) hx hb dX8_judge_249 rfl ?_
                                      refine lv_iload_n hx hb dX8_judge_250 rfl (lv_at hl 0 rfl) ?_
                                      refine lv_iadd hx hb dX8_judge_251 ?_
                                      refine lv_to (y := nI (3 + i3)) (nI_add 3 i3) ?_
                                      refine gl_i hx hb hK hP 3 rfl (i := (3 + i3)) (by omega) (by first | decide | omega) dX8_judge_252 ?_
                                      refine lv_to (y := nI (byt nf (3 + i3))) ((hby _ (by omega)).1) ?_
                                      refine gs_i hx hb hK hP hD hS 1 rfl (i := i3) (x := nI (byt nf (3 + i3))) (by omega) (by first | decide | omega) dX8_judge_253 (fun H locs hP hD hS => ?_)
                                      have hP : va_P D vwCl [(a_nibble, .inl (cI, 100, .inl nbf)), (a_good, .inl (cI, 24, .inl (upd g3 i3 (nI (byt nf (3 + i3)))))), (h0, .inr (8, [.int v_ownSource, .int (nI tgt), .int v_given, .ref a_gift, .int v_frames, .ref a_queue, .int v_bitCount, .int v_bitAt, .ref a_bits, .int v_inFrame, .int v_idle, .int v_register, .int v_phase, .int (nI (nb / 2)), .ref a_bytes, .int v_now, .ref a_hitTime, .ref a_hitLevel, .int v_got, .int v_ear, .int v_run, .int v_locked, .int v_reads, .int v_quiet, .int v_ones, .int v_last, .int v_heard, .int v_ending, .int (bI st), .int (bI fa), .int (nI nb), .ref a_nibble, .ref a_counts, .int v_ended, .int (nI 1), .int (nI (byt nf 1)), .int (nI (byt nf 2)), .ref a_good])), (a_bytes, .inl (cI, 48, .inl y))] H := hP
                                      have hD : va_D A [(a_nibble, .inl (cI, 100, .inl nbf)), (a_good, .inl (cI, 24, .inl (upd g3 i3 (nI (byt nf (3 + i3)))))), (h0, .inr (8, [.int v_ownSource, .int (nI tgt), .int v_given, .ref a_gift, .int v_frames, .ref a_queue, .int v_bitCount, .int v_bitAt, .ref a_bits, .int v_inFrame, .int v_idle, .int v_register, .int v_phase, .int (nI (nb / 2)), .ref a_bytes, .int v_now, .ref a_hitTime, .ref a_hitLevel, .int v_got, .int v_ear, .int v_run, .int v_locked, .int v_reads, .int v_quiet, .int v_ones, .int v_last, .int v_heard, .int v_ending, .int (bI st), .int (bI fa), .int (nI nb), .ref a_nibble, .ref a_counts, .int v_ended, .int (nI 1), .int (nI (byt nf 1)), .int (nI (byt nf 2)), .ref a_good])), (a_bytes, .inl (cI, 48, .inl y))] := hD
                                      refine lv_iinc (v := nI (i3 + 1)) (lv' := [(3, .int (nI (i3 + 1))), (2, .int (nI (byt nf 2))), (1, .int (rcv nf (nb / 2))), (0, .ref h0)]) hx hb dX8_judge_254 hl (k := 0) rfl (nI_add i3 1) (by decide) rfl (fun ls hl => ?_)
                                      refine lv_goto (tgt := 235) hx hb dX8_judge_257 (by decide) ?_
                                      exact ih235 (i3 + 1) (upd g3 i3 (nI (byt nf (3 + i3)))) (by omega) (upd_s (F := fun j => byt nf (3 + j)) hg3) (by omega) _ _ hP hD hS _ (lv_sub hl [0, 1, 2, 3] rfl)
                                exact L235 _ 0 gf (Nat.zero_le _) (fun j h => absurd h (Nat.not_lt_zero _)) (Nat.lt_succ_self _) _ _ hP hD hS _ (lv_sub hl [0, 1, 2, 3] rfl)
                              · skip
                                have k207 : ¬ (byt nf 0) = 255 := fun zq => c207 ((nI_eq (a := (byt nf 0)) (b := 255) (by omega) (by omega)).mpr zq)
                                refine lv_bipush (v := nI 7) hx hb dX8_judge_210 rfl ?_
                                refine W_q hQ ?_
                                exact rt_i (nI (nb / 2), y, any, v_goodSource, v_goodLength, gf) hx hb hr hlocks dX8_judge_212 hS (hP.sub [2, 3, 0, 1] rfl) (hD.sub [2, 3, 0, 1] (by decide) rfl) (jb (k := 7) (jd_7 k4 k13 hev h26 hck k157 h7 k195 k207) (by decide) (by decide) ⟨rfl, rfl, rfl, rfl⟩)
                          · skip
                            have k179 : ¬ (nb / 2) = (7 + (max (byt nf 2) 6)) := fun zq => c179 ((nI_eq (a := (nb / 2)) (b := (7 + (max (byt nf 2) 6))) (by omega) (by omega)).mpr zq)
                            refine lv_bipush (v := nI 6) hx hb dX8_judge_182 rfl ?_
                            refine W_q hQ ?_
                            exact rt_i (nI (nb / 2), y, any, v_goodSource, v_goodLength, gf) hx hb hr hlocks dX8_judge_184 hS (hP.sub [2, 3, 0, 1] rfl) (hD.sub [2, 3, 0, 1] (by decide) rfl) (jb (k := 6) (jd_6 k4 k13 hev h26 hck (Or.inr (by unfold fsz; omega))) (by decide) (by decide) ⟨rfl, rfl, rfl, rfl⟩)
                        refine lv_icmp_ge (tgt := 177) hx hb dX8_judge_169 (by decide) (fun c169 => ?_) (fun c169 => ?_)
                        · skip
                          have k169 : 6 ≤ (byt nf 2) := (nI_leI (a := 6) (b := (byt nf 2)) (by omega) (by omega)).mp c169
                          refine lv_iload_n hx hb dX8_judge_177 rfl (lv_at hl 0 rfl) ?_
                          refine lv_to (y := nI (max (byt nf 2) 6)) (congrArg nI (Nat.max_eq_left (by omega)).symm) ?_
                          exact L178 () _ _ hP hD hS _ (lv_sub hl [0, 1, 2] rfl)
                        · skip
                          have k169 : ¬ 6 ≤ (byt nf 2) := fun zq => c169 ((nI_leI (a := 6) (b := (byt nf 2)) (by omega) (by omega)).mpr zq)
                          refine lv_bipush (v := nI 6) hx hb dX8_judge_172 rfl ?_
                          refine lv_to (y := nI (max (byt nf 2) 6)) (congrArg nI (Nat.max_eq_right (by omega)).symm) ?_
                          refine lv_goto (tgt := 178) hx hb dX8_judge_174 (by decide) ?_
                          exact L178 () _ _ hP hD hS _ (lv_sub hl [0, 1, 2] rfl)
                    · skip
                      have k110 : ¬ 4 ≤ k2 := fun zq => c110 ((nI_leI (a := 4) (b := k2) (by omega) (by omega)).mpr zq)
                      refine lv_aload_n hx hb dX8_judge_113 rfl (lv_at hl 2 rfl) ?_
                      refine va_get (D := D) (ci := 8) (v := .ref a_bytes) (C := RX8) (T := TX8) (N := 38) hx hb hts inX8_judge_X8 hown hK hP 2 rfl rfl 14 (by decide) (hts (.fieldLink RX8 19 "ScrambledLineModel" "bytes" "[I") (by decide +kernel)) (fun _ h9 => h9) rfl dX8_judge_114 ?_
                      refine lv_aload_n hx hb dX8_judge_117 rfl (lv_at hl 2 rfl) ?_
                      refine va_get (D := D) (ci := 8) (v := .int (nI (nb / 2))) (C := RX8) (T := TX8) (N := 38) hx hb hts inX8_judge_X8 hown hK hP 2 rfl rfl 13 (by decide) (hts (.fieldLink RX8 65 "ScrambledLineModel" "size" "I") (by decide +kernel)) (fun _ h9 => h9) rfl dX8_judge_118 ?_
                      refine lv_iconst (v := nI 4) hx hb dX8_judge_121 rfl ?_
                      refine lv_isub hx hb dX8_judge_122 ?_
                      refine lv_to (y := nI ((nb / 2) - 4)) (pk_sub (a := (nb / 2)) (b := 4) (by omega)) ?_
                      refine lv_iload_n hx hb dX8_judge_123 rfl (lv_at hl 0 rfl) ?_
                      refine lv_iadd hx hb dX8_judge_124 ?_
                      refine lv_to (y := nI (((nb / 2) - 4) + k2)) (nI_add ((nb / 2) - 4) k2) ?_
                      refine gl_i hx hb hK hP 3 rfl (i := (((nb / 2) - 4) + k2)) (by omega) (by first | decide | omega) dX8_judge_125 ?_
                      refine lv_to (y := nI (byt nf (nb / 2 - 4 + k2))) ((hby _ (by omega)).1) ?_
                      have hb9 := (hby (nb / 2 - 4 + k2) (by omega)).2
                      refine lv_iload_n hx hb dX8_judge_126 rfl (lv_at hl 1 rfl) ?_
                      refine lv_bipush (v := nI 8) hx hb dX8_judge_127 rfl ?_
                      refine lv_iload_n hx hb dX8_judge_129 rfl (lv_at hl 0 rfl) ?_
                      refine lv_imul hx hb dX8_judge_130 ?_
                      refine lv_to (y := nI (8 * k2)) (pk_mul 8 k2) ?_
                      refine lv_iushr (v := ((rcv nf (nb / 2)).toUInt32 >>> ((nI (8 * k2)).toUInt32 &&& Int32.toUInt32 31)).toInt32) hx hb dX8_judge_131 rfl ?_
                      refine lv_sipush (v := nI 255) hx hb dX8_judge_132 rfl ?_
                      refine lv_iand hx hb dX8_judge_135 ?_
                      refine lv_to (y := nI ((rcv nf (nb / 2)).toBitVec.toNat / 2 ^ (8 * k2) % 256)) (ff_sh (by omega)) ?_
                      refine lv_icmp_eq (tgt := 141) hx hb dX8_judge_136 (by decide) (fun c136 => ?_) (fun c136 => ?_)
                      · skip
                        have k136 : (byt nf (nb / 2 - 4 + k2)) = ((rcv nf (nb / 2)).toBitVec.toNat / 2 ^ (8 * k2) % 256) := (nI_eq (a := (byt nf (nb / 2 - 4 + k2))) (b := ((rcv nf (nb / 2)).toBitVec.toNat / 2 ^ (8 * k2) % 256)) (by omega) (by omega)).mp c136
                        refine lv_iinc (v := nI (k2 + 1)) (lv' := [(2, .int (nI (k2 + 1))), (1, .int (rcv nf (nb / 2))), (0, .ref h0)]) hx hb dX8_judge_141 hl (k := 0) rfl (nI_add k2 1) (by decide) rfl (fun ls hl => ?_)
                        refine lv_goto (tgt := 108) hx hb dX8_judge_144 (by decide) ?_
                        exact ih108 (k2 + 1) (by omega) (ckb_s hk2s k136) (by omega) _ _ hP hD hS _ (lv_sub hl [0, 1, 2] rfl)
                      · skip
                        have k136 : ¬ (byt nf (nb / 2 - 4 + k2)) = ((rcv nf (nb / 2)).toBitVec.toNat / 2 ^ (8 * k2) % 256) := fun zq => c136 ((nI_eq (a := (byt nf (nb / 2 - 4 + k2))) (b := ((rcv nf (nb / 2)).toBitVec.toNat / 2 ^ (8 * k2) % 256)) (by omega) (by omega)).mpr zq)
                        refine lv_iconst (v := nI 5) hx hb dX8_judge_139 rfl ?_
                        refine W_q hQ ?_
                        exact rt_i (nI (nb / 2), y, any, v_goodSource, v_goodLength, gf) hx hb hr hlocks dX8_judge_140 hS (hP.sub [2, 3, 0, 1] rfl) (hD.sub [2, 3, 0, 1] (by decide) rfl) (jb (k := 5) (jd_5 k4 k13 hev h26 (fun zq => k136 (ckb_of zq (by omega)))) (by decide) (by decide) ⟨rfl, rfl, rfl, rfl⟩)
                exact L108 _ 0 (Nat.zero_le _) (fun j h => absurd h (Nat.not_lt_zero _)) (Nat.lt_succ_self _) _ _ hP hD hS _ (lv_sub hl [0, 1, 2] rfl)
              · skip
                have k58 : ¬ (nb / 2) ≤ i := fun zq => c58 ((nI_leI (a := (nb / 2)) (b := i) (by omega) (by omega)).mpr zq)
                refine lv_aload_n hx hb dX8_judge_61 rfl (lv_at hl 1 rfl) ?_
                refine va_get (D := D) (ci := 8) (v := .ref a_bytes) (C := RX8) (T := TX8) (N := 38) hx hb hts inX8_judge_X8 hown hK hP 0 rfl rfl 14 (by decide) (hts (.fieldLink RX8 19 "ScrambledLineModel" "bytes" "[I") (by decide +kernel)) (fun _ h9 => h9) rfl dX8_judge_62 ?_
                refine lv_iload_n hx hb dX8_judge_65 rfl (lv_at hl 0 rfl) ?_
                refine lv_aload_n hx hb dX8_judge_66 rfl (lv_at hl 1 rfl) ?_
                refine va_get (D := D) (ci := 8) (v := .ref a_nibble) (C := RX8) (T := TX8) (N := 38) hx hb hts inX8_judge_X8 hown hK hP 0 rfl rfl 31 (by decide) (hts (.fieldLink RX8 28 "ScrambledLineModel" "nibble" "[I") (by decide +kernel)) (fun _ h9 => h9) rfl dX8_judge_67 ?_
                refine lv_iconst (v := nI 2) hx hb dX8_judge_70 rfl ?_
                refine lv_iload_n hx hb dX8_judge_71 rfl (lv_at hl 0 rfl) ?_
                refine lv_imul hx hb dX8_judge_72 ?_
                refine lv_to (y := nI (2 * i)) (pk_mul 2 i) ?_
                refine gl_i hx hb hK hP 2 rfl (i := (2 * i)) (by omega) (by first | decide | omega) dX8_judge_73 ?_
                refine lv_to (y := nI (nf (2 * i))) ((hN (2 * i) (by omega)).1) ?_
                refine lv_bipush (v := nI 16) hx hb dX8_judge_74 rfl ?_
                refine lv_aload_n hx hb dX8_judge_76 rfl (lv_at hl 1 rfl) ?_
                refine va_get (D := D) (ci := 8) (v := .ref a_nibble) (C := RX8) (T := TX8) (N := 38) hx hb hts inX8_judge_X8 hown hK hP 0 rfl rfl 31 (by decide) (hts (.fieldLink RX8 28 "ScrambledLineModel" "nibble" "[I") (by decide +kernel)) (fun _ h9 => h9) rfl dX8_judge_77 ?_
                refine lv_iconst (v := nI 2) hx hb dX8_judge_80 rfl ?_
                refine lv_iload_n hx hb dX8_judge_81 rfl (lv_at hl 0 rfl) ?_
                refine lv_imul hx hb dX8_judge_82 ?_
                refine lv_to (y := nI (2 * i)) (pk_mul 2 i) ?_
                refine lv_iconst (v := nI 1) hx hb dX8_judge_83 rfl ?_
                refine lv_iadd hx hb dX8_judge_84 ?_
                refine lv_to (y := nI ((2 * i) + 1)) (nI_add (2 * i) 1) ?_
                refine gl_i hx hb hK hP 2 rfl (i := ((2 * i) + 1)) (by omega) (by first | decide | omega) dX8_judge_85 ?_
                refine lv_to (y := nI (nf (2 * i + 1))) ((hN (2 * i + 1) (by omega)).1) ?_
                refine lv_imul hx hb dX8_judge_86 ?_
                refine lv_to (y := nI (16 * (nf (2 * i + 1)))) (pk_mul 16 (nf (2 * i + 1))) ?_
                refine lv_iadd hx hb dX8_judge_87 ?_
                refine lv_to (y := nI (byt nf i)) (nI_add (nf (2 * i)) (16 * nf (2 * i + 1))) ?_
                refine gs_i hx hb hK hP hD hS 1 rfl (i := i) (x := nI (byt nf i)) (by omega) (by first | decide | omega) dX8_judge_88 (fun H locs hP hD hS => ?_)
                have hP : va_P D vwCl [(h0, .inr (8, [.int v_ownSource, .int (nI tgt), .int v_given, .ref a_gift, .int v_frames, .ref a_queue, .int v_bitCount, .int v_bitAt, .ref a_bits, .int v_inFrame, .int v_idle, .int v_register, .int v_phase, .int (nI (nb / 2)), .ref a_bytes, .int v_now, .ref a_hitTime, .ref a_hitLevel, .int v_got, .int v_ear, .int v_run, .int v_locked, .int v_reads, .int v_quiet, .int v_ones, .int v_last, .int v_heard, .int v_ending, .int (bI st), .int (bI fa), .int (nI nb), .ref a_nibble, .ref a_counts, .int v_ended, .int (bI any), .int v_goodSource, .int v_goodLength, .ref a_good])), (a_bytes, .inl (cI, 48, .inl (upd y i (nI (byt nf i))))), (a_nibble, .inl (cI, 100, .inl nbf)), (a_good, .inl (cI, 24, .inl gf))] H := hP
                have hD : va_D A [(h0, .inr (8, [.int v_ownSource, .int (nI tgt), .int v_given, .ref a_gift, .int v_frames, .ref a_queue, .int v_bitCount, .int v_bitAt, .ref a_bits, .int v_inFrame, .int v_idle, .int v_register, .int v_phase, .int (nI (nb / 2)), .ref a_bytes, .int v_now, .ref a_hitTime, .ref a_hitLevel, .int v_got, .int v_ear, .int v_run, .int v_locked, .int v_reads, .int v_quiet, .int v_ones, .int v_last, .int v_heard, .int v_ending, .int (bI st), .int (bI fa), .int (nI nb), .ref a_nibble, .ref a_counts, .int v_ended, .int (bI any), .int v_goodSource, .int v_goodLength, .ref a_good])), (a_bytes, .inl (cI, 48, .inl (upd y i (nI (byt nf i))))), (a_nibble, .inl (cI, 100, .inl nbf)), (a_good, .inl (cI, 24, .inl gf))] := hD
                refine lv_iinc (v := nI (i + 1)) (lv' := [(1, .int (nI (i + 1))), (0, .ref h0)]) hx hb dX8_judge_89 hl (k := 0) rfl (nI_add i 1) (by decide) rfl (fun ls hl => ?_)
                refine lv_goto (tgt := 53) hx hb dX8_judge_92 (by decide) ?_
                exact ih53 (i + 1) (upd y i (nI (byt nf i))) (by omega) (upd_s hy) (by omega) _ _ hP hD hS _ (lv_sub hl [0, 1] rfl)
          exact L53 _ 0 yf (Nat.zero_le _) (fun j h => absurd h (Nat.not_lt_zero _)) (Nat.lt_succ_self _) _ _ hP hD hS _ (lv_sub hl [0, 1] rfl)
        · skip
          have k36 : ¬ 26 ≤ nb := fun zq => c36 ((nI_leI (a := 26) (b := nb) (by omega) (by omega)).mpr zq)
          refine lv_iconst (v := nI 4) hx hb dX8_judge_39 rfl ?_
          refine W_q hQ ?_
          exact rt_i (v_size, yf, any, v_goodSource, v_goodLength, gf) hx hb hr hlocks dX8_judge_40 hS hP hD (jb (k := 4) (jd_4 k4 k13 (by omega) (by omega)) (by decide) (by decide) ⟨rfl, rfl, rfl, rfl⟩)
      · skip
        have k25 : (nb % 2) = 1 := (nI_eq (a := (nb % 2)) (b := 1) (by omega) (by omega)).mp c25
        refine lv_iconst (v := nI 3) hx hb dX8_judge_28 rfl ?_
        refine W_q hQ ?_
        exact rt_i (v_size, yf, any, v_goodSource, v_goodLength, gf) hx hb hr hlocks dX8_judge_29 hS hP hD (jb (k := 3) (jd_3 k4 k13 (by omega)) (by decide) (by decide) ⟨rfl, rfl, rfl, rfl⟩)
    · skip
      have k13 : fa = true := bI_t c13
      refine lv_iconst (v := nI 2) hx hb dX8_judge_16 rfl ?_
      refine W_q hQ ?_
      exact rt_i (v_size, yf, any, v_goodSource, v_goodLength, gf) hx hb hr hlocks dX8_judge_17 hS hP hD (jb (k := 2) (jd_2 k4 k13) (by decide) (by decide) ⟨rfl, rfl, rfl, rfl⟩)
  · skip
    have k4 : st = false := bI_f c4
    refine lv_iconst (v := nI 1) hx hb dX8_judge_7 rfl ?_
    refine W_q hQ ?_
    exact rt_i (v_size, yf, any, v_goodSource, v_goodLength, gf) hx hb hr hlocks dX8_judge_8 hS hP hD (jb (k := 1) (jd_1 k4) (by decide) (by decide) ⟨rfl, rfl, rfl, rfl⟩)
