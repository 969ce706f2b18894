set_option maxHeartbeats 4000000 in
set_option maxRecDepth 100000 in
theorem law_next {p : Program} {l : Launch} {e : Env} {R : Room} {s : State} {m : MethodId} {args : Array Value} {below : List Frame} {meth : Method} {c : Code} {A : Nat → Prop} {Q : State → Prop} {D : va_G} {cI cG : ClassId} {tt : Nat × Nat × Nat} {bs L src tgt : Nat} {xs : Nat → Int32} {h0 se ob sc gr ga fa r0 r1 r2 r3 hi0 hla li sl rr ba ib ca da m0 a_gift a_queue a_bits a_bytes a_hitTime a_hitLevel a_nibble a_counts a_good : Nat} {X : Nat → Prop} {P : Nat → Nat → Prop} (F : LF p R s m args c A D cI cG tt bs L tgt xs) (K : LKC p l e R s m args below meth c A Q D cI cG bs src tgt h0 se ob sc gr ga fa r0 r1 r2 r3 hi0 hla li sl rr ba ib ca da m0 a_gift a_queue a_bits a_bytes a_hitTime a_hitLevel a_nibble a_counts a_good 48 (P)) (hPX : ∀ i T, T ≤ 400 * (i + 3) ∧ i + 3 ≤ L ∧ X i → P (i + 3) T) : LKC p l e R s m args below meth c A Q D cI cG bs src tgt h0 se ob sc gr ga fa r0 r1 r2 r3 hi0 hla li sl rr ba ib ca da m0 a_gift a_queue a_bits a_bytes a_hitTime a_hitLevel a_nibble a_counts a_good 367 (fun i T => T ≤ 400 * (i + 3) ∧ i + 3 ≤ L ∧ X i) := by
  obtain ⟨hR, hx, hb, hml, hown, hts, hE, hT, hA, hX, hbl, hbA, hL, htgt⟩ := F
  intro gc gk inf idl gw bl mo got rk onv qtv lb nbv grv gbv stv fav btv gsv glv ph reg ff ql nx ear grf hf byf ccf cgf Rw gl gf q gs gn ps inF mi nw run qn on la hd lk rd st fa_ bt nb nf cn any gsr gln gd gdv ht hv T bc msz men mgv mlv qf bf yf tf lf nbf mcf mgf i vP vG vSR vQ vff vH vLR vIR vMS vMX vtf vgl vgd H locs hP hD hS ls hl
  refine lv_iinc (v := nI (i + 3)) (lv' := [(3, .int (nI (i + 3))), (0, .ref bs), (1, .ref h0), (2, .ref m0)]) hx hb dL_law_367 hl (k := 3) rfl (nI_add i 3) (by decide) rfl (fun ls hl => ?_)
  refine lv_goto (tgt := 48) hx hb dL_law_370 (by decide) ?_
  exact K gc gk inf idl gw bl mo got rk onv qtv lb nbv grv gbv stv fav btv gsv glv ph reg ff ql nx ear grf hf byf ccf cgf Rw gl gf q gs gn ps inF mi nw run qn on la hd lk rd st fa_ bt nb nf cn any gsr gln gd gdv ht hv T bc msz men mgv mlv qf bf yf tf lf nbf mcf mgf (i + 3) (hPX _ _ vP) vG vSR vQ vff vH vLR vIR vMS vMX vtf vgl vgd _ _ hP hD hS _ (lv_sub hl [1, 2, 3, 0] rfl)
set_option maxHeartbeats 4000000 in
set_option maxRecDepth 100000 in
theorem law_loop {p : Program} {l : Launch} {e : Env} {R : Room} {s : State} {m : MethodId} {args : Array Value} {below : List Frame} {meth : Method} {c : Code} {A : Nat → Prop} {Q : State → Prop} {D : va_G} {cI cG : ClassId} {tt : Nat × Nat × Nat} {bs L src tgt : Nat} {xs : Nat → Int32} {h0 se ob sc gr ga fa r0 r1 r2 r3 hi0 hla li sl rr ba ib ca da m0 a_gift a_queue a_bits a_bytes a_hitTime a_hitLevel a_nibble a_counts a_good : Nat} (F : LF p R s m args c A D cI cG tt bs L tgt xs) (E : ∀ (H : Heap) (locs : List Loc) (ls : Array Slot), va_S A s.heap H locs → W p l e R s m args below meth c H locs 30 1430 Q (F0 m 374 ls [.int (nI 1)])) : ∀ n, LKC p l e R s m args below meth c A Q D cI cG bs src tgt h0 se ob sc gr ga fa r0 r1 r2 r3 hi0 hla li sl rr ba ib ca da m0 a_gift a_queue a_bits a_bytes a_hitTime a_hitLevel a_nibble a_counts a_good 48 (fun i T => T ≤ 400 * i ∧ i ≤ L + 3 ∧ L + 4 ≤ i + n) := by
  intro n
  induction n with
  | zero =>
    intro gc gk inf idl gw bl mo got rk onv qtv lb nbv grv gbv stv fav btv gsv glv ph reg ff ql nx ear grf hf byf ccf cgf Rw gl gf q gs gn ps inF mi nw run qn on la hd lk rd st fa_ bt nb nf cn any gsr gln gd gdv ht hv T bc msz men mgv mlv qf bf yf tf lf nbf mcf mgf i vP vG vSR vQ vff vH vLR vIR vMS vMX vtf vgl vgd H locs hP hD hS ls hl
    exact False.elim (by have h1 := vP.2.1; have h2 := vP.2.2; omega)
  | succ n ih =>
    have K : LKC p l e R s m args below meth c A Q D cI cG bs src tgt h0 se ob sc gr ga fa r0 r1 r2 r3 hi0 hla li sl rr ba ib ca da m0 a_gift a_queue a_bits a_bytes a_hitTime a_hitLevel a_nibble a_counts a_good 367 (fun i T => T ≤ 400 * (i + 3) ∧ i + 3 ≤ L ∧ (fun i => L + 4 ≤ i + (n + 1)) i) := law_next (X := fun i => L + 4 ≤ i + (n + 1)) F ih (fun i T h => ⟨h.1, by omega, by have h2 := h.2.2; omega⟩)
    have F2 := F
    obtain ⟨hR, hx, hb, hml, hown, hts, hE, hT, hA, hX, hbl, hbA, hL, htgt⟩ := F2
    intro gc gk inf idl gw bl mo got rk onv qtv lb nbv grv gbv stv fav btv gsv glv ph reg ff ql nx ear grf hf byf ccf cgf Rw gl gf q gs gn ps inF mi nw run qn on la hd lk rd st fa_ bt nb nf cn any gsr gln gd gdv ht hv T bc msz men mgv mlv qf bf yf tf lf nbf mcf mgf i vP vG vSR vQ vff vH vLR vIR vMS vMX vtf vgl vgd H locs hP hD hS ls hl
    obtain ⟨vT, vi, vX⟩ := vP
    have hl : lv_has ls 4 [(0, .ref bs), (1, .ref h0), (2, .ref m0), (3, .int (nI i))] := hl
    refine lv_iload_n hx hb dL_law_48 rfl (lv_at hl 3 rfl) ?_
    refine lv_aload_n hx hb dL_law_49 rfl (lv_at hl 0 rfl) ?_
    refine va_slen hx hb hX hbl hbA hS dL_law_50 ?_
    refine lv_iconst (v := nI 3) hx hb dL_law_51 rfl ?_
    refine lv_isub hx hb dL_law_52 ?_
    refine lv_icmp_gt (tgt := 373) hx hb dL_law_53 (by decide) (fun c53 => ?_) (fun c53 => ?_)
    · skip
      
      refine lv_iconst (v := nI 1) hx hb dL_law_373 rfl ?_
      exact E _ _ _ hS
    · skip
      have hiL : i + 3 ≤ L := lw_le hL vi c53
      refine lv_aload_n hx hb dL_law_56 rfl (lv_at hl 0 rfl) ?_
      refine lv_iload_n hx hb dL_law_57 rfl (lv_at hl 3 rfl) ?_
      refine va_sld hx hb hX hbl hbA hS (vp_in_nI (by omega) (by omega)) dL_law_58 ?_
      refine lv_to (y := xs i) (congrArg xs (nI_clamp (by omega))) ?_
      refine lv_bipush (v := nI 15) hx hb dL_law_59 rfl ?_
      refine lv_iand hx hb dL_law_61 ?_
      obtain ⟨sw, hsw, esw⟩ := and15 (xs i)
      refine lv_to (y := nI sw) esw ?_
      rcases (show sw = 0 ∨ sw = 1 ∨ sw = 2 ∨ sw = 3 ∨ sw = 4 ∨ sw = 5 ∨ sw = 6 ∨ sw = 7 ∨ sw = 8 ∨ sw = 9 ∨ sw = 10 ∨ sw = 11 ∨ sw = 12 ∨ 13 ≤ sw by omega) with rfl | rfl | rfl | rfl | rfl | rfl | rfl | rfl | rfl | rfl | rfl | rfl | rfl | h13
      · refine lv_tableIn (off := 66) (tgt := 128) hx hb dL_law_62 (by decide) (by decide) (by decide) (by decide) ?_
        exact law_data F K gc gk inf idl gw bl mo got rk onv qtv lb nbv grv gbv stv fav btv gsv glv ph reg ff ql nx ear grf hf byf ccf cgf Rw gl gf q gs gn ps inF mi nw run qn on la hd lk rd st fa_ bt nb nf cn any gsr gln gd gdv ht hv T bc msz men mgv mlv qf bf yf tf lf nbf mcf mgf i ⟨vT, hiL, vX⟩ vG vSR vQ vff vH vLR vIR vMS vMX vtf vgl vgd _ _ hP hD hS _ hl
      · refine lv_tableIn (off := 89) (tgt := 151) hx hb dL_law_62 (by decide) (by decide) (by decide) (by decide) ?_
        exact law_send F K gc gk inf idl gw bl mo got rk onv qtv lb nbv grv gbv stv fav btv gsv glv ph reg ff ql nx ear grf hf byf ccf cgf Rw gl gf q gs gn ps inF mi nw run qn on la hd lk rd st fa_ bt nb nf cn any gsr gln gd gdv ht hv T bc msz men mgv mlv qf bf yf tf lf nbf mcf mgf i ⟨vT, hiL, vX⟩ vG vSR vQ vff vH vLR vIR vMS vMX vtf vgl vgd _ _ hP hD hS _ hl
      · refine lv_tableIn (off := 112) (tgt := 174) hx hb dL_law_62 (by decide) (by decide) (by decide) (by decide) ?_
        exact law_hit F K gc gk inf idl gw bl mo got rk onv qtv lb nbv grv gbv stv fav btv gsv glv ph reg ff ql nx ear grf hf byf ccf cgf Rw gl gf q gs gn ps inF mi nw run qn on la hd lk rd st fa_ bt nb nf cn any gsr gln gd gdv ht hv T bc msz men mgv mlv qf bf yf tf lf nbf mcf mgf i ⟨vT, hiL, vX⟩ vG vSR vQ vff vH vLR vIR vMS vMX vtf vgl vgd _ _ hP hD hS _ hl
      · refine lv_tableIn (off := 145) (tgt := 207) hx hb dL_law_62 (by decide) (by decide) (by decide) (by decide) ?_
        exact law_run F K gc gk inf idl gw bl mo got rk onv qtv lb nbv grv gbv stv fav btv gsv glv ph reg ff ql nx ear grf hf byf ccf cgf Rw gl gf q gs gn ps inF mi nw run qn on la hd lk rd st fa_ bt nb nf cn any gsr gln gd gdv ht hv T bc msz men mgv mlv qf bf yf tf lf nbf mcf mgf i ⟨vT, hiL, vX⟩ vG vSR vQ vff vH vLR vIR vMS vMX vtf vgl vgd _ _ hP hD hS _ hl
      · refine lv_tableIn (off := 168) (tgt := 230) hx hb dL_law_62 (by decide) (by decide) (by decide) (by decide) ?_
        exact law_waiting F K gc gk inf idl gw bl mo got rk onv qtv lb nbv grv gbv stv fav btv gsv glv ph reg ff ql nx ear grf hf byf ccf cgf Rw gl gf q gs gn ps inF mi nw run qn on la hd lk rd st fa_ bt nb nf cn any gsr gln gd gdv ht hv T bc msz men mgv mlv qf bf yf tf lf nbf mcf mgf i ⟨vT, hiL, vX⟩ vG vSR vQ vff vH vLR vIR vMS vMX vtf vgl vgd _ _ hP hD hS _ hl
      · refine lv_tableIn (off := 181) (tgt := 243) hx hb dL_law_62 (by decide) (by decide) (by decide) (by decide) ?_
        exact law_sending F K gc gk inf idl gw bl mo got rk onv qtv lb nbv grv gbv stv fav btv gsv glv ph reg ff ql nx ear grf hf byf ccf cgf Rw gl gf q gs gn ps inF mi nw run qn on la hd lk rd st fa_ bt nb nf cn any gsr gln gd gdv ht hv T bc msz men mgv mlv qf bf yf tf lf nbf mcf mgf i ⟨vT, hiL, vX⟩ vG vSR vQ vff vH vLR vIR vMS vMX vtf vgl vgd _ _ hP hD hS _ hl
      · refine lv_tableIn (off := 194) (tgt := 256) hx hb dL_law_62 (by decide) (by decide) (by decide) (by decide) ?_
        exact law_level F K gc gk inf idl gw bl mo got rk onv qtv lb nbv grv gbv stv fav btv gsv glv ph reg ff ql nx ear grf hf byf ccf cgf Rw gl gf q gs gn ps inF mi nw run qn on la hd lk rd st fa_ bt nb nf cn any gsr gln gd gdv ht hv T bc msz men mgv mlv qf bf yf tf lf nbf mcf mgf i ⟨vT, hiL, vX⟩ vG vSR vQ vff vH vLR vIR vMS vMX vtf vgl vgd _ _ hP hD hS _ hl
      · refine lv_tableIn (off := 207) (tgt := 269) hx hb dL_law_62 (by decide) (by decide) (by decide) (by decide) ?_
        exact law_register F K gc gk inf idl gw bl mo got rk onv qtv lb nbv grv gbv stv fav btv gsv glv ph reg ff ql nx ear grf hf byf ccf cgf Rw gl gf q gs gn ps inF mi nw run qn on la hd lk rd st fa_ bt nb nf cn any gsr gln gd gdv ht hv T bc msz men mgv mlv qf bf yf tf lf nbf mcf mgf i ⟨vT, hiL, vX⟩ vG vSR vQ vff vH vLR vIR vMS vMX vtf vgl vgd _ _ hP hD hS _ hl
      · refine lv_tableIn (off := 220) (tgt := 282) hx hb dL_law_62 (by decide) (by decide) (by decide) (by decide) ?_
        exact law_state F K gc gk inf idl gw bl mo got rk onv qtv lb nbv grv gbv stv fav btv gsv glv ph reg ff ql nx ear grf hf byf ccf cgf Rw gl gf q gs gn ps inF mi nw run qn on la hd lk rd st fa_ bt nb nf cn any gsr gln gd gdv ht hv T bc msz men mgv mlv qf bf yf tf lf nbf mcf mgf i ⟨vT, hiL, vX⟩ vG vSR vQ vff vH vLR vIR vMS vMX vtf vgl vgd _ _ hP hD hS _ hl
      · refine lv_tableIn (off := 233) (tgt := 295) hx hb dL_law_62 (by decide) (by decide) (by decide) (by decide) ?_
        exact law_count F K gc gk inf idl gw bl mo got rk onv qtv lb nbv grv gbv stv fav btv gsv glv ph reg ff ql nx ear grf hf byf ccf cgf Rw gl gf q gs gn ps inF mi nw run qn on la hd lk rd st fa_ bt nb nf cn any gsr gln gd gdv ht hv T bc msz men mgv mlv qf bf yf tf lf nbf mcf mgf i ⟨vT, hiL, vX⟩ vG vSR vQ vff vH vLR vIR vMS vMX vtf vgl vgd _ _ hP hD hS _ hl
      · refine lv_tableIn (off := 256) (tgt := 318) hx hb dL_law_62 (by decide) (by decide) (by decide) (by decide) ?_
        exact law_source F K gc gk inf idl gw bl mo got rk onv qtv lb nbv grv gbv stv fav btv gsv glv ph reg ff ql nx ear grf hf byf ccf cgf Rw gl gf q gs gn ps inF mi nw run qn on la hd lk rd st fa_ bt nb nf cn any gsr gln gd gdv ht hv T bc msz men mgv mlv qf bf yf tf lf nbf mcf mgf i ⟨vT, hiL, vX⟩ vG vSR vQ vff vH vLR vIR vMS vMX vtf vgl vgd _ _ hP hD hS _ hl
      · refine lv_tableIn (off := 269) (tgt := 331) hx hb dL_law_62 (by decide) (by decide) (by decide) (by decide) ?_
        exact law_length F K gc gk inf idl gw bl mo got rk onv qtv lb nbv grv gbv stv fav btv gsv glv ph reg ff ql nx ear grf hf byf ccf cgf Rw gl gf q gs gn ps inF mi nw run qn on la hd lk rd st fa_ bt nb nf cn any gsr gln gd gdv ht hv T bc msz men mgv mlv qf bf yf tf lf nbf mcf mgf i ⟨vT, hiL, vX⟩ vG vSR vQ vff vH vLR vIR vMS vMX vtf vgl vgd _ _ hP hD hS _ hl
      · refine lv_tableIn (off := 282) (tgt := 344) hx hb dL_law_62 (by decide) (by decide) (by decide) (by decide) ?_
        exact law_byteOf F K gc gk inf idl gw bl mo got rk onv qtv lb nbv grv gbv stv fav btv gsv glv ph reg ff ql nx ear grf hf byf ccf cgf Rw gl gf q gs gn ps inF mi nw run qn on la hd lk rd st fa_ bt nb nf cn any gsr gln gd gdv ht hv T bc msz men mgv mlv qf bf yf tf lf nbf mcf mgf i ⟨vT, hiL, vX⟩ vG vSR vQ vff vH vLR vIR vMS vMX vtf vgl vgd _ _ hP hD hS _ hl
      · refine lv_tableOut (tgt := 367) hx hb dL_law_62 (Or.inr (by rw [nI_toInt (by omega)]; omega)) (by decide) ?_
        exact K gc gk inf idl gw bl mo got rk onv qtv lb nbv grv gbv stv fav btv gsv glv ph reg ff ql nx ear grf hf byf ccf cgf Rw gl gf q gs gn ps inF mi nw run qn on la hd lk rd st fa_ bt nb nf cn any gsr gln gd gdv ht hv T bc msz men mgv mlv qf bf yf tf lf nbf mcf mgf i ⟨by omega, hiL, vX⟩ vG vSR vQ vff vH vLR vIR vMS vMX vtf vgl vgd _ _ hP hD hS _ hl
