/-! ===== a bit time, in numbers ===== -/
/-- the sender: waiting frames, their queue, the block's groups, how many, bits sent of it, a frame's?, idle groups -/
abbrev SG : Type := Nat × (Nat → Nat) × (Nat → Nat) × Nat × Nat × Bool × Nat
def sStep (src : Nat) (x : SG) : SG := match x with
  | (ql, q, gs, gn, pos, inF, mi) => if pos = 5 * gn then (if 0 < ql ∧ 6 ≤ eN inF mi then (ql - 1, fun k => q (k + 32), fg (qB src q 0) (fsz (q 1) + 4), 2 * (fsz (q 1) + 4) + 8, 1, true, eN inF mi) else (ql, q, fun _ => 31, 1, 1, false, eN inF mi + 1)) else (ql, q, gs, gn, pos + 1, inF, mi)
section SS
variable {src ql gn pos mi : Nat} {q gs : Nat → Nat} {inF : Bool}
theorem ss_mid (h : ¬ pos = 5 * gn) : (ql, q, gs, gn, pos + 1, inF, mi) = sStep src (ql, q, gs, gn, pos, inF, mi) := (if_neg h).symm
theorem ss_idle (h : pos = 5 * gn) (h2 : ql = 0 ∨ eN inF mi < 6) : (ql, q, fun _ => 31, 1, 1, false, eN inF mi + 1) = sStep src (ql, q, gs, gn, pos, inF, mi) := by
  show _ = if pos = 5 * gn then _ else _
  rw [if_pos h, if_neg (by omega)]
theorem ss_frame (h : pos = 5 * gn) (h1 : 0 < ql) (h2 : 6 ≤ eN inF mi) : (ql - 1, fun k => q (k + 32), fg (qB src q 0) (fsz (q 1) + 4), 2 * (fsz (q 1) + 4) + 8, 1, true, eN inF mi) = sStep src (ql, q, gs, gn, pos, inF, mi) := by
  show _ = if pos = 5 * gn then _ else _
  rw [if_pos h, if_pos ⟨h1, h2⟩]
end SS
theorem QW_sh {ql : Nat} {q : Nat → Nat} (h : QW ql q) : QW (ql - 1) (fun k => q (k + 32)) := fun j hj => by
  have h1 := h (j + 1) (by omega)
  have e1 : 32 * j + 32 = 32 * (j + 1) := by omega
  have e2 : 32 * j + 1 + 32 = 32 * (j + 1) + 1 := by omega
  refine ⟨?_, ?_, fun i hi => ?_⟩
  · show q (32 * j + 32) < 256
    rw [e1]; exact h1.1
  · show q (32 * j + 1 + 32) ≤ 24
    rw [e2]; exact h1.2.1
  · have hi' : i < q (32 * j + 1 + 32) := hi
    rw [e2] at hi'
    show q (32 * j + 2 + i + 32) < 256
    rw [show 32 * j + 2 + i + 32 = 32 * (j + 1) + 2 + i by omega]
    exact h1.2.2 i hi'
/-- the listener: register, run, quiet, ones, last bits, bits heard, locked, reading, the frame that is read -/
abbrev LSt : Type := Nat × Nat × Nat × Nat × Nat × Nat × Bool × Bool × RS
/-- what has come: counts, any good, its source, length, data -/
abbrev BX : Type := (Nat → Nat) × Bool × Nat × Nat × (Nat → Nat)
def bxN (k : Nat) (nf : Nat → Nat) (b : BX) : BX := (updN b.1 k (b.1 k + 1), if k = 0 then (true, byt nf 1, byt nf 2, fun i => byt nf (3 + i)) else b.2)
def lStep (tgt mk : Nat) (x : LSt) (b : BX) : LSt × BX × Nat := match x with
  | (ear, run, qt, on, last, hd, lk, rd, rs) =>
    if lk = false then (if rkN ear mk run = 30 then ((rN ear (1 - mk), rkN ear mk run, 0, 0, 0, 0, true, false, rs), b, 0) else ((rN ear (1 - mk), rkN ear mk run, qt, on, last, hd, false, rd, rs), b, 0))
    else if qtN (onM (plN mk ear) on) qt = 400 then (if rd = true then ((rN ear (kN ear), 0, qtN (onM (plN mk ear) on) qt, onM (plN mk ear) on, 0, 0, false, false, rs), bxN 10 rs.2.2.2.2 b, 1) else ((rN ear (kN ear), 0, qtN (onM (plN mk ear) on) qt, onM (plN mk ear) on, last, hd, false, false, rs), b, 0))
    else if rd = false then (if 10 ≤ hd + 1 ∧ (2 * last + plN mk ear) % 1024 = 785 then ((rN ear (kN ear), run, qtN (onM (plN mk ear) on) qt, onM (plN mk ear) on, (2 * last + plN mk ear) % 1024, 0, true, true, (false, false, false, 0, rs.2.2.2.2)), b, 0) else ((rN ear (kN ear), run, qtN (onM (plN mk ear) on) qt, onM (plN mk ear) on, (2 * last + plN mk ear) % 1024, hd + 1, true, false, rs), b, 0))
    else if ¬ (hd + 1) % 5 = 0 then ((rN ear (kN ear), run, qtN (onM (plN mk ear) on) qt, onM (plN mk ear) on, (2 * last + plN mk ear) % 1024, hd + 1, true, true, rs), b, 0)
    else if rs.2.2.1 = true then ((rN ear (kN ear), run, qtN (onM (plN mk ear) on) qt, onM (plN mk ear) on, 0, 0, true, false, rs), bxN (if (2 * last + plN mk ear) % 1024 % 32 = 7 then jdg tgt rs.1 rs.2.1 rs.2.2.2.1 rs.2.2.2.2 else 9) rs.2.2.2.2 b, 1)
    else if (2 * last + plN mk ear) % 1024 % 32 = 31 then ((rN ear (kN ear), run, qtN (onM (plN mk ear) on) qt, onM (plN mk ear) on, 0, 0, true, false, rs), bxN 8 rs.2.2.2.2 b, 1)
    else ((rN ear (kN ear), run, qtN (onM (plN mk ear) on) qt, onM (plN mk ear) on, (2 * last + plN mk ear) % 1024, hd + 1, true, true, tgS ((2 * last + plN mk ear) % 1024 % 32) rs), b, 0)
section LSS
variable {tgt mk ear run qt on last hd : Nat} {rd : Bool} {rs : RS} {b : BX}
theorem ls_no (h : ¬ rkN ear mk run = 30) : lStep tgt mk (ear, run, qt, on, last, hd, false, rd, rs) b = ((rN ear (1 - mk), rkN ear mk run, qt, on, last, hd, false, rd, rs), b, 0) := by
  unfold lStep
  dsimp only
  rw [if_pos rfl, if_neg h]
theorem ls_yes (h : rkN ear mk run = 30) : lStep tgt mk (ear, run, qt, on, last, hd, false, rd, rs) b = ((rN ear (1 - mk), rkN ear mk run, 0, 0, 0, 0, true, false, rs), b, 0) := by
  unfold lStep
  dsimp only
  rw [if_pos rfl, if_pos h]
theorem ls_lr (h : qtN (onM (plN mk ear) on) qt = 400) : lStep tgt mk (ear, run, qt, on, last, hd, true, true, rs) b = ((rN ear (kN ear), 0, qtN (onM (plN mk ear) on) qt, onM (plN mk ear) on, 0, 0, false, false, rs), bxN 10 rs.2.2.2.2 b, 1) := by
  unfold lStep
  dsimp only
  rw [if_neg (by decide), if_pos h, if_pos rfl]
theorem ls_lh (h : qtN (onM (plN mk ear) on) qt = 400) : lStep tgt mk (ear, run, qt, on, last, hd, true, false, rs) b = ((rN ear (kN ear), 0, qtN (onM (plN mk ear) on) qt, onM (plN mk ear) on, last, hd, false, false, rs), b, 0) := by
  unfold lStep
  dsimp only
  rw [if_neg (by decide), if_pos h, if_neg (by decide)]
theorem ls_hy (h : ¬ qtN (onM (plN mk ear) on) qt = 400) (h2 : 10 ≤ hd + 1 ∧ (2 * last + plN mk ear) % 1024 = 785) : lStep tgt mk (ear, run, qt, on, last, hd, true, false, rs) b = ((rN ear (kN ear), run, qtN (onM (plN mk ear) on) qt, onM (plN mk ear) on, (2 * last + plN mk ear) % 1024, 0, true, true, (false, false, false, 0, rs.2.2.2.2)), b, 0) := by
  unfold lStep
  dsimp only
  rw [if_neg (by decide), if_neg h, if_pos rfl, if_pos h2]
theorem ls_hn (h : ¬ qtN (onM (plN mk ear) on) qt = 400) (h2 : ¬ (10 ≤ hd + 1 ∧ (2 * last + plN mk ear) % 1024 = 785)) : lStep tgt mk (ear, run, qt, on, last, hd, true, false, rs) b = ((rN ear (kN ear), run, qtN (onM (plN mk ear) on) qt, onM (plN mk ear) on, (2 * last + plN mk ear) % 1024, hd + 1, true, false, rs), b, 0) := by
  unfold lStep
  dsimp only
  rw [if_neg (by decide), if_neg h, if_pos rfl, if_neg h2]
theorem ls_in (h : ¬ qtN (onM (plN mk ear) on) qt = 400) (h2 : ¬ (hd + 1) % 5 = 0) : lStep tgt mk (ear, run, qt, on, last, hd, true, true, rs) b = ((rN ear (kN ear), run, qtN (onM (plN mk ear) on) qt, onM (plN mk ear) on, (2 * last + plN mk ear) % 1024, hd + 1, true, true, rs), b, 0) := by
  unfold lStep
  dsimp only
  rw [if_neg (by decide), if_neg h, if_neg (by decide), if_pos h2]
theorem ls_T {st fa : Bool} {nb : Nat} {nf : Nat → Nat} (h : ¬ qtN (onM (plN mk ear) on) qt = 400) (h2 : (hd + 1) % 5 = 0) : lStep tgt mk (ear, run, qt, on, last, hd, true, true, (st, fa, true, nb, nf)) b = ((rN ear (kN ear), run, qtN (onM (plN mk ear) on) qt, onM (plN mk ear) on, 0, 0, true, false, (st, fa, true, nb, nf)), bxN (if (2 * last + plN mk ear) % 1024 % 32 = 7 then jdg tgt st fa nb nf else 9) nf b, 1) := by
  unfold lStep
  dsimp only
  rw [if_neg (by decide), if_neg h, if_neg (by decide), if_neg (fun z => z h2), if_pos rfl]
theorem ls_8 {st fa : Bool} {nb : Nat} {nf : Nat → Nat} (h : ¬ qtN (onM (plN mk ear) on) qt = 400) (h2 : (hd + 1) % 5 = 0) (h3 : (2 * last + plN mk ear) % 1024 % 32 = 31) : lStep tgt mk (ear, run, qt, on, last, hd, true, true, (st, fa, false, nb, nf)) b = ((rN ear (kN ear), run, qtN (onM (plN mk ear) on) qt, onM (plN mk ear) on, 0, 0, true, false, (st, fa, false, nb, nf)), bxN 8 nf b, 1) := by
  unfold lStep
  dsimp only
  rw [if_neg (by decide), if_neg h, if_neg (by decide), if_neg (fun z => z h2), if_neg (by decide), if_pos h3]
theorem ls_g {st fa : Bool} {nb : Nat} {nf : Nat → Nat} (h : ¬ qtN (onM (plN mk ear) on) qt = 400) (h2 : (hd + 1) % 5 = 0) (h3 : ¬ (2 * last + plN mk ear) % 1024 % 32 = 31) : lStep tgt mk (ear, run, qt, on, last, hd, true, true, (st, fa, false, nb, nf)) b = ((rN ear (kN ear), run, qtN (onM (plN mk ear) on) qt, onM (plN mk ear) on, (2 * last + plN mk ear) % 1024, hd + 1, true, true, tgS ((2 * last + plN mk ear) % 1024 % 32) (st, fa, false, nb, nf)), b, 0) := by
  unfold lStep
  dsimp only
  rw [if_neg (by decide), if_neg h, if_neg (by decide), if_neg (fun z => z h2), if_neg (by decide), if_neg h3]
end LSS
/-- the ones in a row beside the bits of the group that is read -/
def OJ (on last hd : Nat) : Prop := (last % 2 ^ (hd % 5) = 2 ^ (hd % 5) - 1 ∧ on ≤ 4 + hd % 5) ∨ on < hd % 5
/-- what stays true of the listener -/
def LI (x : LSt) : Prop := match x with
  | (ear, run, qt, on, last, hd, lk, rd, (st, fa, bt, nb, nf)) => ear < 2048 ∧ last < 1024 ∧ (lk = false → run < 30) ∧ (lk = true → qt < 400) ∧ (lk = true → rd = false → (hd < 10 → last < 2 ^ hd) ∧ (1 ≤ hd → last % 2 = 0 → on = 0)) ∧ (lk = true → rd = true → hd ≤ qt ∧ OJ on last hd ∧ 5 * nb ≤ hd)
theorem rN_lt (r b : Nat) : rN r b < 2048 := Nat.mod_lt _ (by decide)
theorem OJ_9 {on last hd : Nat} (h : OJ on last hd) : on ≤ 8 := by
  have := Nat.mod_lt hd (show 0 < 5 by decide)
  rcases h with h | h <;> omega
theorem OJ_s {on last hd pl : Nat} (hp : pl < 2) (hl : last < 1024) (h : OJ on last hd) (h5 : ¬ (hd + 1) % 5 = 0) : OJ (onM pl on) ((2 * last + pl) % 1024) (hd + 1) := by
  have hj := Nat.mod_lt hd (show 0 < 5 by decide)
  have e : (hd + 1) % 5 = hd % 5 + 1 := by omega
  unfold OJ at *
  rw [e]
  rcases (show pl = 0 ∨ pl = 1 by omega) with rfl | rfl
  · rw [onM_0 (by decide)]; right; omega
  · rw [onM_1 rfl]
    rcases h with h | h
    · left
      refine ⟨?_, by omega⟩
      rcases (show hd % 5 = 0 ∨ hd % 5 = 1 ∨ hd % 5 = 2 ∨ hd % 5 = 3 by omega) with q | q | q | q <;> rw [q] at h ⊢ <;> simp only [Nat.reducePow, Nat.reduceAdd] at h ⊢ <;> omega
    · right; omega
theorem OJ_5 {on last hd pl : Nat} (hp : pl < 2) (hl : last < 1024) (h : OJ on last hd) (h5 : (hd + 1) % 5 = 0) (hw : ¬ (2 * last + pl) % 1024 % 32 = 31) : OJ (onM pl on) ((2 * last + pl) % 1024) (hd + 1) := by
  have e : hd % 5 = 4 := by omega
  unfold OJ at *
  rw [h5]
  rw [e] at h
  left
  refine ⟨by simp only [Nat.reducePow]; omega, ?_⟩
  rcases (show pl = 0 ∨ pl = 1 by omega) with rfl | rfl
  · rw [onM_0 (by decide)]; omega
  · rw [onM_1 rfl]
    rcases h with h | h
    · exfalso
      have h1 := h.1
      simp only [Nat.reducePow] at h1
      omega
    · omega
theorem tkB_le (n : Nat) (st : Bool) (nb : Nat) : tkB n st nb ≤ nb + 1 := by unfold tkB; split <;> (try split) <;> omega
theorem tgS_nb (w : Nat) (st fa bt : Bool) (nb : Nat) (nf : Nat → Nat) : (tgS w (st, fa, bt, nb, nf)).2.2.2.1 ≤ nb + 1 := by
  unfold tgS
  split
  · exact Nat.le_succ _
  · split
    · exact Nat.le_succ _
    · split
      · exact Nat.le_succ _
      · exact tkB_le _ _ _
theorem LI_step {tgt mk : Nat} {x : LSt} {b : BX} (hm : mk < 2) (h : LI x) : LI (lStep tgt mk x b).1 := by
  obtain ⟨ear, run, qt, on, last, hd, lk, rd, st, fa, bt, nb, nf⟩ := x
  obtain ⟨h1, h2, h3, h4, h5, h6⟩ := h
  have hpl := plN_lt mk ear
  have hl2 : (2 * last + plN mk ear) % 1024 < 1024 := Nat.mod_lt _ (by decide)
  cases lk with
  | false =>
    have h3 := h3 rfl
    have hr := rkN_le ear mk run
    by_cases e : rkN ear mk run = 30
    · rw [ls_yes e]
      exact ⟨rN_lt _ _, by decide, fun z => (by cases z), fun _ => by decide, fun _ _ => ⟨fun _ => by decide, fun z => by omega⟩, fun _ z => by cases z⟩
    · rw [ls_no e]
      exact ⟨rN_lt _ _, h2, fun _ => by omega, fun z => (by cases z), fun z => (by cases z), fun z => (by cases z)⟩
  | true =>
    have h4 := h4 rfl
    have hq := qtN_le (onM (plN mk ear) on) qt
    by_cases e4 : qtN (onM (plN mk ear) on) qt = 400
    · cases rd with
      | true => rw [ls_lr e4]; exact ⟨rN_lt _ _, by decide, fun _ => by decide, fun z => (by cases z), fun z => (by cases z), fun z => (by cases z)⟩
      | false => rw [ls_lh e4]; exact ⟨rN_lt _ _, h2, fun _ => by decide, fun z => (by cases z), fun z => (by cases z), fun z => (by cases z)⟩
    · have hq4 : qtN (onM (plN mk ear) on) qt < 400 := by omega
      cases rd with
      | false =>
        obtain ⟨h51, h52⟩ := h5 rfl rfl
        by_cases ey : 10 ≤ hd + 1 ∧ (2 * last + plN mk ear) % 1024 = 785
        · rw [ls_hy e4 ey]
          have hp1 : plN mk ear = 1 := by omega
          have ho := h52 (by omega) (by omega)
          refine ⟨rN_lt _ _, hl2, fun z => (by cases z), fun _ => hq4, fun _ z => (by cases z), fun _ _ => ⟨Nat.zero_le _, Or.inl ⟨Nat.mod_one _, ?_⟩, Nat.zero_le _⟩⟩
          rw [hp1, onM_1 rfl, ho]; decide
        · rw [ls_hn e4 ey]
          refine ⟨rN_lt _ _, hl2, fun z => (by cases z), fun _ => hq4, fun _ _ => ⟨fun z => ?_, fun _ z => ?_⟩, fun _ z => (by cases z)⟩
          · have h := h51 (by omega)
            rw [Nat.pow_succ]
            have : (2 * last + plN mk ear) % 1024 ≤ 2 * last + plN mk ear := Nat.mod_le _ _
            omega
          · rw [onM_0 (by omega)]
      | true =>
        obtain ⟨h61, h62, h63⟩ := h6 rfl rfl
        have ho := OJ_9 h62
        have ho2 := onM_le (plN mk ear) on
        have hqe : qtN (onM (plN mk ear) on) qt = qt + 1 := qtN_1 (by omega)
        by_cases e5 : (hd + 1) % 5 = 0
        · cases bt with
          | true => rw [ls_T e4 e5]; exact ⟨rN_lt _ _, by decide, fun z => (by cases z), fun _ => hq4, fun _ _ => ⟨fun _ => by decide, fun z => by omega⟩, fun _ z => (by cases z)⟩
          | false =>
            by_cases ew : (2 * last + plN mk ear) % 1024 % 32 = 31
            · rw [ls_8 e4 e5 ew]; exact ⟨rN_lt _ _, by decide, fun z => (by cases z), fun _ => hq4, fun _ _ => ⟨fun _ => by decide, fun z => by omega⟩, fun _ z => (by cases z)⟩
            · rw [ls_g e4 e5 ew]
              have ht := tgS_nb ((2 * last + plN mk ear) % 1024 % 32) st fa false nb nf
              generalize hg : tgS ((2 * last + plN mk ear) % 1024 % 32) (st, fa, false, nb, nf) = g at ht ⊢
              obtain ⟨st2, fa2, bt2, nb2, nf2⟩ := g
              have ht : nb2 ≤ nb + 1 := ht
              exact ⟨rN_lt _ _, hl2, fun z => (by cases z), fun _ => hq4, fun _ z => (by cases z), fun _ _ => ⟨by omega, OJ_5 hpl h2 h62 e5 ew, by omega⟩⟩
        · rw [ls_in e4 e5]
          exact ⟨rN_lt _ _, hl2, fun z => (by cases z), fun _ => hq4, fun _ z => (by cases z), fun _ _ => ⟨by omega, OJ_s hpl h2 h62 e5, by omega⟩⟩
