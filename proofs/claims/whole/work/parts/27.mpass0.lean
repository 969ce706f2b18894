/-- what stays true of the sender -/
def SI (src ql : Nat) (q gs : Nat → Nat) (gn pos : Nat) : Prop := src < 256 ∧ ql ≤ 4 ∧ QW ql q ∧ pos ≤ 5 * gn ∧ gn ≤ 72 ∧ ∀ j, j < gn → gs j < 32
/-- the reference's arrays: queue and bits -/
def MS (qf bf : Nat → Int32) (bc ql : Nat) (q gs : Nat → Nat) (gn : Nat) : Prop := bc = 5 * gn ∧ QM qf ql q ∧ LB gs bf gn
/-- the reference's nibbles, counts, latest good frame -/
def MX (nbf cf gf : Nat → Int32) (gv lv : Int32) (nb : Nat) (nf cn : Nat → Nat) (gsr gln : Nat) (gd : Nat → Nat) : Prop := NB nbf nb nf ∧ (∀ k, k < 11 → cf k = nI (cn k)) ∧ gv = nI gsr ∧ lv = nI gln ∧ ∀ i, i < gln → gf i = nI (gd i)
/-- the level that the listener gets -/
def lvl (ht : Nat → Nat) (hv : Nat → Int32) (nw ph : Nat) : Int32 := if ht (nw % 128) = nw then hv (nw % 128) else lvI ph
theorem bcase (b : Bool) : b = false ∨ b = true := by cases b <;> simp
theorem nb_cases (ql pos gn mi : Nat) (inF : Bool) : (¬ pos = 5 * gn) ∨ (pos = 5 * gn ∧ (ql = 0 ∨ eN inF mi < 6)) ∨ (pos = 5 * gn ∧ 0 < ql ∧ 6 ≤ eN inF mi) := by omega
theorem rcase (bt : Bool) (hd w : Nat) : (¬ (hd + 1) % 5 = 0) ∨ ((hd + 1) % 5 = 0 ∧ bt = true ∧ ¬ w = 7) ∨ ((hd + 1) % 5 = 0 ∧ bt = true ∧ w = 7) ∨ ((hd + 1) % 5 = 0 ∧ bt = false ∧ w = 31) ∨ ((hd + 1) % 5 = 0 ∧ bt = false ∧ w = 13) ∨ ((hd + 1) % 5 = 0 ∧ bt = false ∧ ¬ w = 31 ∧ ¬ w = 13) := by
  cases bt <;> simp <;> omega
theorem ph_1 {b k ph : Nat} (hb : b < 2) (hk : k < 2) (hp : ph < 4) (h : ¬ b = k) : (ph + 1) % 4 = (ph + (b + k) % 2) % 4 := by omega
theorem ph_0 {b k ph : Nat} (hb : b < 2) (hk : k < 2) (hp : ph < 4) (h : b = k) : ph = (ph + (b + k) % 2) % 4 := by omega
theorem fg_lt (Bf : Nat → Nat) (len j : Nat) : fg Bf len j < 32 := by
  unfold fg
  repeat' split
  all_goals first | decide | exact gN_lt _
section SIS
variable {src ql gn pos : Nat} {q gs : Nat → Nat}
theorem SI_mid (h : SI src ql q gs gn pos) (hp : pos < 5 * gn) : SI src ql q gs gn (pos + 1) := ⟨h.1, h.2.1, h.2.2.1, hp, h.2.2.2.2.1, h.2.2.2.2.2⟩
theorem SI_idle (h : SI src ql q gs gn pos) : SI src ql q (fun _ => 31) 1 (0 + 1) := ⟨h.1, h.2.1, h.2.2.1, by decide, by decide, fun _ _ => show 31 < 32 by decide⟩
theorem SI_frame (h : SI src ql q gs gn pos) (h0 : 0 < ql) : SI src (ql - 1) (fun k => q (k + 32)) (fg (qB src q 0) (fsz (q 1) + 4)) (2 * (fsz (q 1) + 4) + 8) (0 + 1) := by
  have h1 : q 1 ≤ 24 := (h.2.2.1 0 h0).2.1
  have h2 := h.2.1
  refine ⟨h.1, by omega, QW_sh h.2.2.1, by omega, ?_, fun j _ => fg_lt _ _ _⟩
  unfold fsz
  omega
end SIS
section MXS
variable {nbf cf gf gf2 : Nat → Int32} {gv lv gs2 gl2 : Int32} {nb : Nat} {nf cn gd : Nat → Nat} {gsr gln : Nat} {any any2 : Bool}
theorem bx_nz {k : Nat} (h : ¬ k = 0) : bxN k nf (cn, any, gsr, gln, gd) = (updN cn k (cn k + 1), any, gsr, gln, gd) := by
  unfold bxN
  rw [if_neg h]
theorem cnt_s {k : Nat} (h : ∀ k, k < 11 → cf k = nI (cn k)) (hk : k < 11) : ∀ j, j < 11 → upd cf k (cf k + nI 1) j = nI (updN cn k (cn k + 1) j) := fun j hj => by
  by_cases e : j = k
  · subst e; rw [pk_us, updN_s rfl, h j hj, nI_add]
  · rw [pk_un e, updN_n e]; exact h j hj
theorem MX_c {k : Nat} (hk : k < 11) (h : MX nbf cf gf gv lv nb nf cn gsr gln gd) : MX nbf (upd cf k (cf k + nI 1)) gf gv lv nb nf (updN cn k (cn k + 1)) gsr gln gd := ⟨h.1, cnt_s h.2.1 hk, h.2.2⟩
theorem MX_0 (h : MX nbf cf gf gv lv nb nf cn gsr gln gd) : MX nbf cf gf gv lv 0 nf cn gsr gln gd := ⟨fun i hi => absurd hi (Nat.not_lt_zero _), h.2⟩
theorem MX_n {nbf2 : Nat → Int32} {nb2 : Nat} {nf2 : Nat → Nat} (hN : NB nbf2 nb2 nf2) (h : MX nbf cf gf gv lv nb nf cn gsr gln gd) : MX nbf2 cf gf gv lv nb2 nf2 cn gsr gln gd := ⟨hN, h.2⟩
theorem mj {tgt : Nat} {st fa : Bool} (hz : jdg tgt st fa nb nf = 0 → any2 = true ∧ gs2 = nI (byt nf 1) ∧ gl2 = nI (byt nf 2) ∧ ∀ i, i < byt nf 2 → gf2 i = nI (byt nf (3 + i))) (hnz : ¬ jdg tgt st fa nb nf = 0 → any2 = any ∧ gs2 = gv ∧ gl2 = lv ∧ gf2 = gf) (h : MX nbf cf gf gv lv nb nf cn gsr gln gd) : ∃ (gsrJ glnJ : Nat) (gdJ : Nat → Nat), bxN (jdg tgt st fa nb nf) nf (cn, any, gsr, gln, gd) = (updN cn (jdg tgt st fa nb nf) (cn (jdg tgt st fa nb nf) + 1), any2, gsrJ, glnJ, gdJ) ∧ MX nbf (upd cf (jdg tgt st fa nb nf) (cf (jdg tgt st fa nb nf) + nI 1)) gf2 gs2 gl2 nb nf (updN cn (jdg tgt st fa nb nf) (cn (jdg tgt st fa nb nf) + 1)) gsrJ glnJ gdJ := by
  have h7 := jdg_le tgt st fa nb nf
  by_cases e : jdg tgt st fa nb nf = 0
  · obtain ⟨rfl, rfl, rfl, h4⟩ := hz e
    refine ⟨byt nf 1, byt nf 2, fun i => byt nf (3 + i), ?_, h.1, cnt_s h.2.1 (by omega), rfl, rfl, h4⟩
    unfold bxN
    rw [if_pos e]
  · obtain ⟨rfl, rfl, rfl, rfl⟩ := hnz e
    exact ⟨gsr, gln, gd, bx_nz e, MX_c (by omega) h⟩
variable {tgt mk ear run qt on last hd : Nat} {st fa : Bool}
theorem ls_T9 (h : ¬ qtN (onM (plN mk ear) on) qt = 400) (h2 : (hd + 1) % 5 = 0) (h7 : ¬ (2 * last + plN mk ear) % 1024 % 32 = 7) : lStep tgt mk (ear, run, qt, on, last, hd, true, true, (st, fa, true, nb, nf)) (cn, any, gsr, gln, gd) = ((rN ear (kN ear), run, qtN (onM (plN mk ear) on) qt, onM (plN mk ear) on, 0, 0, true, false, (st, fa, true, nb, nf)), (updN cn 9 (cn 9 + 1), any, gsr, gln, gd), 1) := by
  rw [ls_T h h2, if_neg h7, bx_nz (by decide)]
theorem ls_Tj {b2 : BX} (h : ¬ qtN (onM (plN mk ear) on) qt = 400) (h2 : (hd + 1) % 5 = 0) (h7 : (2 * last + plN mk ear) % 1024 % 32 = 7) (hb : bxN (jdg tgt st fa nb nf) nf (cn, any, gsr, gln, gd) = b2) : lStep tgt mk (ear, run, qt, on, last, hd, true, true, (st, fa, true, nb, nf)) (cn, any, gsr, gln, gd) = ((rN ear (kN ear), run, qtN (onM (plN mk ear) on) qt, onM (plN mk ear) on, 0, 0, true, false, (st, fa, true, nb, nf)), b2, 1) := by
  rw [ls_T h h2, if_pos h7, hb]
theorem ls_g13 {b : BX} (h : ¬ qtN (onM (plN mk ear) on) qt = 400) (h2 : (hd + 1) % 5 = 0) (h3 : (2 * last + plN mk ear) % 1024 % 32 = 13) : lStep tgt mk (ear, run, qt, on, last, hd, true, true, (st, fa, false, nb, nf)) b = ((rN ear (kN ear), run, qtN (onM (plN mk ear) on) qt, onM (plN mk ear) on, (2 * last + plN mk ear) % 1024, hd + 1, true, true, (st, fa, true, nb, nf)), b, 0) := by
  rw [ls_g h h2 (by omega), h3]
  rfl
theorem ls_gp {b : BX} {st2 fa2 : Bool} {nb2 : Nat} (h : ¬ qtN (onM (plN mk ear) on) qt = 400) (h2 : (hd + 1) % 5 = 0) (h31 : ¬ (2 * last + plN mk ear) % 1024 % 32 = 31) (h13 : ¬ (2 * last + plN mk ear) % 1024 % 32 = 13) (e1 : st2 = tkS (nN ((2 * last + plN mk ear) % 1024 % 32)) st) (e2 : fa2 = tkF (nN ((2 * last + plN mk ear) % 1024 % 32)) st fa) (e3 : nb2 = tkB (nN ((2 * last + plN mk ear) % 1024 % 32)) st nb) : ((rN ear (kN ear), run, qtN (onM (plN mk ear) on) qt, onM (plN mk ear) on, (2 * last + plN mk ear) % 1024, hd + 1, true, true, (st2, fa2, false, nb2, tkV (nN ((2 * last + plN mk ear) % 1024 % 32)) st nb nf)), b, 0) = lStep tgt mk (ear, run, qt, on, last, hd, true, true, (st, fa, false, nb, nf)) b := by
  subst e1; subst e2; subst e3
  rw [ls_g h h2 h31]
  unfold tgS
  dsimp only
  rw [if_neg (by decide), if_neg h31, if_neg h13]
end MXS
