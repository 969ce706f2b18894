/-! ===== bit times, one behind another ===== -/
/-- sender, its register, its place in the levels, the time, the level got last, the listener, what has come -/
abbrev GSt : Type := SG × Nat × Nat × Nat × Int32 × LSt × BX
def aStep (src tgt : Nat) (ht : Nat → Nat) (hv : Nat → Int32) (a : GSt) : GSt × Nat := match a with
  | (sg, reg, ph, nw, got, x, b) => match sStep src sg with
    | (ql, q, gs, gn, pos, inF, mi) => match lStep tgt (mkN (lvl ht hv (nw + 1) ((ph + (gb gs (pos - 1) + kN reg) % 2) % 4)) got) x b with
      | (x2, b2, e) => (((ql, q, gs, gn, pos, inF, mi), rN reg (kN reg), (ph + (gb gs (pos - 1) + kN reg) % 2) % 4, nw + 1, lvl ht hv (nw + 1) ((ph + (gb gs (pos - 1) + kN reg) % 2) % 4), x2, b2), e)
def aIt (src tgt : Nat) (ht : Nat → Nat) (hv : Nat → Int32) (a : GSt) : Nat → GSt × Nat
  | 0 => (a, 0)
  | n + 1 => ((aStep src tgt ht hv (aIt src tgt ht hv a n).1).1, (aIt src tgt ht hv a n).2 + (aStep src tgt ht hv (aIt src tgt ht hv a n).1).2)
theorem aS_of {src tgt : Nat} {ht : Nat → Nat} {hv : Nat → Int32} {sg : SG} {reg ph nw ph2 ei ql2 gn2 ps2 mi2 : Nat} {q2 gs2 : Nat → Nat} {inF2 : Bool} {got got2 : Int32} {x x2 : LSt} {b b2 : BX} (p1 : (ql2, q2, gs2, gn2, ps2, inF2, mi2) = sStep src sg) (p3 : ph2 = (ph + (gb gs2 (ps2 - 1) + kN reg) % 2) % 4) (p4 : got2 = lvl ht hv (nw + 1) ph2) (p5 : (x2, b2, ei) = lStep tgt (mkN got2 got) x b) : (((ql2, q2, gs2, gn2, ps2, inF2, mi2), rN reg (kN reg), ph2, nw + 1, got2, x2, b2), ei) = aStep src tgt ht hv (sg, reg, ph, nw, got, x, b) := by
  unfold aStep
  dsimp only
  rw [← p1]
  dsimp only
  rw [← p3, ← p4, ← p5]
theorem it_s {src tgt i e ei : Nat} {ht : Nat → Nat} {hv : Nat → Int32} {a0 a a2 : GSt} (hA : a = (aIt src tgt ht hv a0 i).1) (hE : e = (aIt src tgt ht hv a0 i).2) (hs : (a2, ei) = aStep src tgt ht hv a) : a2 = (aIt src tgt ht hv a0 (i + 1)).1 ∧ e + ei = (aIt src tgt ht hv a0 (i + 1)).2 := by
  show a2 = (aStep src tgt ht hv (aIt src tgt ht hv a0 i).1).1 ∧ e + ei = (aIt src tgt ht hv a0 i).2 + (aStep src tgt ht hv (aIt src tgt ht hv a0 i).1).2
  rw [← hA, ← hs, ← hE]
  exact ⟨rfl, rfl⟩
/-- what stays true, with T bit times behind -/
def GI (src T : Nat) (a : GSt) : Prop := match a with
  | ((ql, q, gs, gn, pos, inF, mi), reg, ph, nw, got, (ear, run, qt, on, last, hd, lk, rd, rs), b) => SI src ql q gs gn pos ∧ mi ≤ T ∧ reg < 2048 ∧ ph < 4 ∧ nw ≤ T ∧ LI (ear, run, qt, on, last, hd, lk, rd, rs) ∧ on ≤ T ∧ hd ≤ T ∧ (pos < 5 * gn → 0 < pos) ∧ (pos < 5 * gn → inF = false → gn = 1 ∧ gs 0 = 31 ∧ 1 ≤ mi)
theorem lS_bd {tgt mk : Nat} {ear run qt on last hd : Nat} {lk rd : Bool} {rs : RS} {b : BX} : (lStep tgt mk (ear, run, qt, on, last, hd, lk, rd, rs) b).1.2.2.2.1 ≤ on + 1 ∧ (lStep tgt mk (ear, run, qt, on, last, hd, lk, rd, rs) b).1.2.2.2.2.2.1 ≤ hd + 1 ∧ (lStep tgt mk (ear, run, qt, on, last, hd, lk, rd, rs) b).2.2 ≤ 1 := by
  have ho := onM_le (plN mk ear) on
  unfold lStep
  dsimp only
  repeat' split
  all_goals (refine ⟨?_, ?_, ?_⟩ <;> dsimp only <;> omega)
theorem aS_e {src tgt : Nat} {ht : Nat → Nat} {hv : Nat → Int32} {a : GSt} : (aStep src tgt ht hv a).2 ≤ 1 := by
  obtain ⟨sg, reg, ph, nw, got, ⟨ear, run, qt, on, last, hd, lk, rd, rs⟩, b⟩ := a
  unfold aStep
  dsimp only
  exact lS_bd.2.2
theorem aIt_e {src tgt : Nat} {ht : Nat → Nat} {hv : Nat → Int32} {a : GSt} : ∀ n, (aIt src tgt ht hv a n).2 ≤ n
  | 0 => Nat.le_refl _
  | n + 1 => by
    have h1 := aIt_e (src := src) (tgt := tgt) (ht := ht) (hv := hv) (a := a) n
    have h2 := aS_e (src := src) (tgt := tgt) (ht := ht) (hv := hv) (a := (aIt src tgt ht hv a n).1)
    show (aIt src tgt ht hv a n).2 + (aStep src tgt ht hv (aIt src tgt ht hv a n).1).2 ≤ n + 1
    omega
theorem GI_step {src tgt T : Nat} {ht : Nat → Nat} {hv : Nat → Int32} {a : GSt} (h : GI src T a) : GI src (T + 1) (aStep src tgt ht hv a).1 := by
  obtain ⟨⟨ql, q, gs, gn, pos, inF, mi⟩, reg, ph, nw, got, ⟨ear, run, qt, on, last, hd, lk, rd, rs⟩, b⟩ := a
  obtain ⟨h1, h2, h3, h4, h5, h6, h7, h8, h9, h10⟩ := h
  have he := eN_le inF mi
  have hps := h1.2.2.2.1
  have hS : ∀ x : SG, sStep src (ql, q, gs, gn, pos, inF, mi) = x → SI src x.1 x.2.1 x.2.2.1 x.2.2.2.1 x.2.2.2.2.1 ∧ x.2.2.2.2.2.2 ≤ T + 1 ∧ (x.2.2.2.2.1 < 5 * x.2.2.2.1 → 0 < x.2.2.2.2.1) ∧ (x.2.2.2.2.1 < 5 * x.2.2.2.1 → x.2.2.2.2.2.1 = false → x.2.2.2.1 = 1 ∧ x.2.2.1 0 = 31 ∧ 1 ≤ x.2.2.2.2.2.2) := by
    intro x hx
    rcases nb_cases ql pos gn mi inF with hc | ⟨hc, hno⟩ | ⟨hc, h0, h6'⟩
    · rw [← ss_mid hc] at hx
      subst hx
      exact ⟨SI_mid h1 (show pos < 5 * gn by omega), by dsimp only; omega, fun _ => by dsimp only; omega, fun z w => h10 (show pos < 5 * gn by omega) w⟩
    · rw [← ss_idle hc hno] at hx
      subst hx
      exact ⟨SI_idle h1, by dsimp only; omega, fun _ => by dsimp only; omega, fun _ _ => ⟨rfl, rfl, by dsimp only; omega⟩⟩
    · rw [← ss_frame hc h0 h6'] at hx
      subst hx
      exact ⟨SI_frame h1 h0, by dsimp only; omega, fun _ => by dsimp only; omega, fun _ z => by cases z⟩
  generalize hsx : sStep src (ql, q, gs, gn, pos, inF, mi) = x at hS
  obtain ⟨ql2, q2, gs2, gn2, pos2, inF2, mi2⟩ := x
  obtain ⟨s1, s2, s3, s4⟩ := hS _ rfl
  have hm := mkN_lt (lvl ht hv (nw + 1) ((ph + (gb gs2 (pos2 - 1) + kN reg) % 2) % 4)) got
  have hL := LI_step (tgt := tgt) (b := b) hm h6
  have hB := lS_bd (tgt := tgt) (mk := mkN (lvl ht hv (nw + 1) ((ph + (gb gs2 (pos2 - 1) + kN reg) % 2) % 4)) got) (ear := ear) (run := run) (qt := qt) (on := on) (last := last) (hd := hd) (lk := lk) (rd := rd) (rs := rs) (b := b)
  unfold aStep
  dsimp only
  rw [hsx]
  dsimp only
  generalize lStep tgt (mkN (lvl ht hv (nw + 1) ((ph + (gb gs2 (pos2 - 1) + kN reg) % 2) % 4)) got) (ear, run, qt, on, last, hd, lk, rd, rs) b = y at hL hB ⊢
  obtain ⟨⟨ear2, run2, qt2, on2, last2, hd2, lk2, rd2, rs2⟩, b2, e⟩ := y
  have hb1 : on2 ≤ on + 1 := hB.1
  have hb2 : hd2 ≤ hd + 1 := hB.2.1
  exact ⟨s1, s2, rN_lt _ _, Nat.mod_lt _ (by decide), by omega, hL, by omega, by omega, s3, s4⟩
theorem GI_it {src tgt T : Nat} {ht : Nat → Nat} {hv : Nat → Int32} {a : GSt} (h : GI src T a) : ∀ n, GI src (T + n) (aIt src tgt ht hv a n).1
  | 0 => h
  | n + 1 => GI_step (GI_it h n)
