/-! ===== what the law's loop needs of numbers ===== -/
theorem dt_cases (x : Int32) {gl n : Nat} (h : gl ≤ n) : isB x = false ∨ (isB x = true ∧ gl = n) ∨ (isB x = true ∧ gl < n) := by
  cases isB x
  · exact Or.inl rfl
  · right
    rcases (show gl = n ∨ gl < n by omega) with h | h
    · exact Or.inl ⟨rfl, h⟩
    · exact Or.inr ⟨rfl, h⟩
theorem gv_put {gl j0 : Nat} {gf : Nat → Int32} {gdv : Nat → Nat} {x : Int32} (h : ∀ j, j < gl → gf j = nI (gdv j) ∧ gdv j < 256) (ex : x = nI j0) (hj : j0 < 256) : ∀ j, j < gl + 1 → upd gf gl x j = nI (updN gdv gl j0 j) ∧ updN gdv gl j0 j < 256 := fun j hj' => by
  by_cases e : j = gl
  · subst e
    rw [pk_us, updN_s rfl]
    exact ⟨ex, hj⟩
  · rw [pk_un e, updN_n e]
    exact h j (by omega)
theorem QW_put {ql t gl : Nat} {q gdv : Nat → Nat} (h : QW ql q) (ht : t < 256) (hg : gl ≤ 24) (hd : ∀ j, j < gl → gdv j < 256) : QW (ql + 1) (qput q ql t gl gdv) := fun j hj => by
  by_cases e : j = ql
  · subst e
    have e1 : qput q j t gl gdv (32 * j + 1) = gl := by unfold qput; rw [if_neg (by omega), if_neg (by omega), if_pos rfl]
    refine ⟨?_, by rw [e1]; exact hg, fun i hi => ?_⟩
    · unfold qput; rw [if_neg (by omega), if_pos rfl]; exact ht
    · rw [e1] at hi
      unfold qput
      rw [if_neg (by omega), if_neg (by omega), if_neg (by omega), if_pos (by omega), show 32 * j + 2 + i - (32 * j + 2) = i by omega]
      exact hd i hi
  · have h1 := h j (by omega)
    have e0 : qput q ql t gl gdv (32 * j) = q (32 * j) := if_pos (by omega)
    have e1 : qput q ql t gl gdv (32 * j + 1) = q (32 * j + 1) := if_pos (by omega)
    refine ⟨by rw [e0]; exact h1.1, by rw [e1]; exact h1.2.1, fun i hi => ?_⟩
    rw [e1] at hi
    have h2 := h1.2.1
    have e2 : qput q ql t gl gdv (32 * j + 2 + i) = q (32 * j + 2 + i) := if_pos (by omega)
    rw [e2]
    exact h1.2.2 i hi
theorem GI_put {src T ql t gl gn ps mi reg ph nw : Nat} {q gs gdv : Nat → Nat} {inF : Bool} {got : Int32} {x : LSt} {b : BX} (h : GI src T ((ql, q, gs, gn, ps, inF, mi), reg, ph, nw, got, x, b)) (hq : ql < 4) (ht : t < 256) (hg : gl ≤ 24) (hd : ∀ j, j < gl → gdv j < 256) : GI src T ((ql + 1, qput q ql t gl gdv, gs, gn, ps, inF, mi), reg, ph, nw, got, x, b) := by
  obtain ⟨ear, run, qt, on, last, hd2, lk, rd, rs⟩ := x
  exact ⟨⟨h.1.1, by omega, QW_put h.1.2.2.1 ht hg hd, h.1.2.2.2⟩, h.2⟩
theorem okH_v {k v : Int32} (h : okH k v = true) : ¬ v = nI 2 := fun e => by
  simp [okH] at h
  have h4 := h.2
  rw [e] at h4
  exact absurd h4 (by decide)
theorem H_hit {nx nw : Nat} {hf g : Nat → Int32} {ht : Nat → Nat} {hv : Nat → Int32} {k v : Int32} (h : HRel nx hf nw ht hv) (hg : g = if okH k v = true then upd hf ((nx + k.toNatClampNeg - 1) % 100) v else hf) : HRel nx g nw (if okH k v = true then updN ht ((nw + k.toNatClampNeg) % 128) (nw + k.toNatClampNeg) else ht) (if okH k v = true then upd hv ((nw + k.toNatClampNeg) % 128) v else hv) := by
  by_cases o : okH k v = true
  · rw [if_pos o] at hg
    rw [if_pos o, if_pos o, hg]
    obtain ⟨j, h1, h2, ek⟩ := okH_j o
    have ec : k.toNatClampNeg = j := by rw [ek]; exact nI_clamp (by omega)
    rw [ec]
    have hx := h.1
    refine ⟨hx, fun i => ?_, fun i => ?_, fun k' hk1 hk2 => ?_⟩
    · by_cases e : i = (nw + j) % 128
      · rw [updN_s e]; omega
      · rw [updN_n e]; exact h.2.1 i
    · by_cases e : i = (nw + j) % 128
      · subst e; rw [pk_us]; exact okH_v o
      · rw [pk_un e]; exact h.2.2.1 i
    · by_cases e : k' = j
      · subst e
        rw [pk_us, updN_s rfl, if_pos rfl, pk_us]
      · rw [pk_un (by omega), updN_n (by omega), pk_un (by omega)]
        exact h.2.2.2 k' hk1 hk2
  · rw [if_neg o] at hg
    rw [if_neg o, if_neg o, hg]
    exact h
theorem tf_hit {nw : Nat} {tf lf tf2 lf2 hv : Nat → Int32} {ht : Nat → Nat} {k v : Int32} (h : ∀ j, j < 128 → tf j = nI (ht j) ∧ lf j = hv j) (h1 : tf2 = if okH k v = true then upd tf ((nw + k.toNatClampNeg) % 128) (nI (nw + k.toNatClampNeg)) else tf) (h2 : lf2 = if okH k v = true then upd lf ((nw + k.toNatClampNeg) % 128) v else lf) : ∀ j, j < 128 → tf2 j = nI ((if okH k v = true then updN ht ((nw + k.toNatClampNeg) % 128) (nw + k.toNatClampNeg) else ht) j) ∧ lf2 j = (if okH k v = true then upd hv ((nw + k.toNatClampNeg) % 128) v else hv) j := fun j hj => by
  by_cases o : okH k v = true
  · rw [if_pos o] at h1 h2
    rw [if_pos o, if_pos o, h1, h2]
    by_cases e : j = (nw + k.toNatClampNeg) % 128
    · subst e
      rw [pk_us, updN_s rfl, pk_us, pk_us]
      exact ⟨rfl, rfl⟩
    · rw [pk_un e, updN_n e, pk_un e, pk_un e]
      exact h j hj
  · rw [if_neg o] at h1 h2
    rw [if_neg o, if_neg o, h1, h2]
    exact h j hj
theorem snd_b {gc gk inf idl gw bl : Int32} {grf : Nat → Int32} {gs : Nat → Nat} {gn ps mi bc : Nat} {inF : Bool} (h : SRel gc gk inf idl gw bl grf gs gn ps inF mi) (hb : bc = 5 * gn) (hp : ps ≤ 5 * gn) : inf = bI (inF && decide (ps < bc)) := by
  subst hb
  by_cases e : ps = 5 * gn
  · rw [(h.1 e).1, decide_eq_false (by omega), Bool.and_false]
    rfl
  · have hl : ps < 5 * gn := by omega
    rw [decide_eq_true hl, Bool.and_true]
    cases hF : inF with
    | false => exact (h.2.1 hl hF).1
    | true => exact (h.2.2 hl hF).1
theorem st_mo {mo rk on qt lb nbv g gb stv fav btv : Int32} {byf : Nat → Int32} {ear run qtn onn last hd : Nat} {lk rd : Bool} {rs : RS} (h : LRel mo rk on qt lb nbv g gb stv fav btv byf (ear, run, qtn, onn, last, hd, lk, rd, rs)) : mo = nI (stN lk rd) := by
  obtain ⟨st, fa, bt, nb, nf⟩ := rs
  cases lk with
  | false => exact (h.1 rfl).1
  | true =>
    cases rd with
    | false => exact (h.2.2.1 rfl rfl).1
    | true => exact (h.2.2.2 rfl rfl).1
theorem gbS_c {any : Bool} {n : Nat} {f g : Nat → Int32} {x : Int32} (hn : n ≤ 24) (h : ∀ i, i < n → f i = g i) : gbS any n f x = gbS any n g x := by
  unfold gbS
  by_cases e : any = true ∧ 0 ≤ x ∧ x < nI n
  · rw [if_pos e, if_pos e]
    obtain ⟨j, hj, rfl⟩ := nI_of (Int32.not_lt.mpr e.2.1)
    rw [nI_clamp hj]
    exact h j ((nI_ltI hj (by omega)).mp e.2.2)
  · rw [if_neg e, if_neg e]
theorem lw_le {i L : Nat} (hL : L ≤ 1539) (hi : i ≤ L + 3) (h : ¬ nI L - nI 3 < nI i) : i + 3 ≤ L := by
  have h1 := Int32.le_iff_toInt_le.mp (Int32.not_lt.mp h)
  rw [Int32.toInt_sub, nI_toInt (by omega), nI_toInt (by omega), nI_toInt (by omega)] at h1
  have h2 : ((L : Int) - 3).bmod (2 ^ 32) = L - 3 := Int.bmod_eq_of_le (by omega) (by omega)
  have h3 : ((3 : Nat) : Int) = 3 := rfl
  rw [h3, h2] at h1
  omega
theorem and15 (x : Int32) : ∃ k : Nat, k < 16 ∧ x &&& nI 15 = nI k := by
  refine ⟨x.toBitVec.toNat % 16, Nat.mod_lt _ (by decide), ?_⟩
  apply Int32.toBitVec_inj.mp
  apply BitVec.eq_of_toNat_eq
  rw [pk_tn (by have := Nat.mod_lt x.toBitVec.toNat (show 0 < 16 by decide); omega)]
  show (x.toBitVec &&& (nI 15).toBitVec).toNat = _
  rw [BitVec.toNat_and, show (nI 15).toBitVec.toNat = 2 ^ 4 - 1 by decide, Nat.and_two_pow_sub_one_eq_mod]
/-! the start -/
theorem rg0_lt (x : Int32) : rg0 x < 2048 := by
  unfold rg0
  have := flm_lt x (d := 2048) (by decide)
  split <;> omega
theorem GI_0 {src : Nat} {x : Int32} (h : src < 256) : GI src 0 ((0, fun _ => 0, fun _ => 0, 0, 0, false, 0), rg0 x, 0, 0, nI 0, (0, 0, 0, 0, 0, 0, false, false, (false, false, false, 0, fun _ => 0)), (fun _ => 0, false, 0, 0, fun _ => 0)) := ⟨⟨h, by decide, fun j hj => absurd hj (Nat.not_lt_zero _), by decide, by decide, fun j hj => absurd hj (Nat.not_lt_zero _)⟩, Nat.le_refl _, rg0_lt x, by decide, Nat.le_refl _, ⟨by decide, by decide, fun _ => by decide, fun z => (by cases z), fun z => (by cases z), fun z => (by cases z)⟩, Nat.le_refl _, Nat.le_refl _, fun z => absurd z (by decide), fun z => absurd z (by decide)⟩
theorem S_0 {grf : Nat → Int32} : SRel (nI 0) (nI 0) (nI 0) (nI 0) (nI 31) (nI 0) grf (fun _ => 0) 0 0 false 0 := ⟨fun _ => ⟨rfl, rfl, rfl⟩, fun z => absurd z (by decide), fun z => absurd z (by decide)⟩
theorem L_0 {byf : Nat → Int32} : LRel (nI 0) (nI 0) (nI 0) (nI 0) (nI 0) (nI 0) (nI 0) (nI 0) (nI 0) (nI 0) (nI 0) byf (0, 0, 0, 0, 0, 0, false, false, (false, false, false, 0, fun _ => 0)) := ⟨fun _ => ⟨rfl, rfl⟩, fun z => (by cases z), fun z => (by cases z), fun z => (by cases z)⟩
theorem I_0 : IRel (-1) (-1) (fun _ => 0) (fun _ => 0) (fun _ => 0, false, 0, 0, fun _ => 0) := ⟨fun _ _ => nI_0.symm, rfl, rfl, by decide, fun i hi => absurd hi (Nat.not_lt_zero _)⟩
theorem H_0 {hf : Nat → Int32} (h : ∀ j, j < 100 → hf j = nI 2) : HRel 0 hf 0 (fun _ => 0) (fun _ => 0) := ⟨by decide, fun _ => show 0 ≤ 0 + 100 by omega, fun _ => show ¬ (0 : Int32) = nI 2 by decide, fun k h1 h2 => by rw [h _ (Nat.mod_lt _ (by decide)), if_neg (show ¬ 0 = 0 + k by omega)]⟩
theorem MS_0 {qf bf : Nat → Int32} : MS qf bf 0 0 (fun _ => 0) (fun _ => 0) 0 := ⟨rfl, fun k hk => absurd hk (Nat.not_lt_zero _), LB_0⟩
theorem MX_00 : MX (fun _ => 0) (fun _ => 0) (fun _ => 0) (nI 0) (nI 0) 0 (fun _ => 0) (fun _ => 0) 0 0 (fun _ => 0) := ⟨fun i hi => absurd hi (Nat.not_lt_zero _), fun _ _ => nI_0.symm, rfl, rfl, fun i hi => absurd hi (Nat.not_lt_zero _)⟩
theorem Q_0 {src : Nat} {q : Nat → Nat} {Rw : Nat → Nat → Int32} : QRel src 0 0 q Rw := fun j hj => absurd hj (Nat.not_lt_zero _)
/-- one state, told twice -/
theorem tup_eq {ql ql' gn gn' ps ps' mi mi' reg reg' ph ph' nw nw' ear ear' run run' qn qn' on on' la la' hd hd' nb nb' gsr gsr' gln gln' : Nat} {q q' gs gs' nf nf' cn cn' gd gd' : Nat → Nat} {inF inF' lk lk' rd rd' st st' fa fa' bt bt' any any' : Bool} {got got' : Int32} (h : (((ql, q, gs, gn, ps, inF, mi), reg, ph, nw, got, (ear, run, qn, on, la, hd, lk, rd, (st, fa, bt, nb, nf)), (cn, any, gsr, gln, gd)) : GSt) = ((ql', q', gs', gn', ps', inF', mi'), reg', ph', nw', got', (ear', run', qn', on', la', hd', lk', rd', (st', fa', bt', nb', nf')), (cn', any', gsr', gln', gd'))) : ql = ql' ∧ q = q' ∧ gs = gs' ∧ gn = gn' ∧ ps = ps' ∧ inF = inF' ∧ mi = mi' ∧ reg = reg' ∧ ph = ph' ∧ nw = nw' ∧ got = got' ∧ ear = ear' ∧ run = run' ∧ qn = qn' ∧ on = on' ∧ la = la' ∧ hd = hd' ∧ lk = lk' ∧ rd = rd' ∧ st = st' ∧ fa = fa' ∧ bt = bt' ∧ nb = nb' ∧ nf = nf' ∧ cn = cn' ∧ any = any' ∧ gsr = gsr' ∧ gln = gln' ∧ gd = gd' := by
  simp only [Prod.mk.injEq] at h
  obtain ⟨⟨h1, h2, h3, h4, h5, h6, h7⟩, h8, h9, h10, h11, ⟨h12, h13, h14, h15, h16, h17, h18, h19, h20, h21, h22, h23, h24⟩, h25, h26, h27, h28, h29⟩ := h
  exact ⟨h1, h2, h3, h4, h5, h6, h7, h8, h9, h10, h11, h12, h13, h14, h15, h16, h17, h18, h19, h20, h21, h22, h23, h24, h25, h26, h27, h28, h29⟩
