theorem len31 {n : Nat} (h : n ≤ 24) : fsz n + 4 ≤ 31 := by unfold fsz; omega
theorem gl16 (la hd : Nat) : la % 2 ^ (hd % 5) < 16 := by
  have hj := Nat.mod_lt hd (show 0 < 5 by decide)
  rcases (show hd % 5 = 0 ∨ hd % 5 = 1 ∨ hd % 5 = 2 ∨ hd % 5 = 3 ∨ hd % 5 = 4 by omega) with q | q | q | q | q <;> rw [q] <;> simp only [Nat.reducePow] <;> omega
theorem hy10 {la hd p : Nat} (h : hd < 10 → la < 2 ^ hd) (hy : (2 * la + p) % 1024 = 785) (hp : p < 2 := by exact plN_lt _ _) : 10 ≤ hd + 1 := by
  by_cases e : hd < 9
  · exfalso
    have h1 := h (by omega)
    have h2 : (2 * la + p) % 1024 ≤ 2 * la + p := Nat.mod_le _ _
    have h3 : 2 ^ hd ≤ 2 ^ 8 := Nat.pow_le_pow_right (by decide) (by omega)
    have h4 : 2 ^ 8 = 256 := by decide
    omega
  · omega
theorem h_cases (lk rd bt : Bool) (k q4 hd l2 w : Nat) : (lk = false ∧ ¬ k = 30) ∨ (lk = false ∧ k = 30) ∨ (lk = true ∧ rd = false ∧ q4 = 400) ∨ (lk = true ∧ rd = false ∧ ¬ q4 = 400 ∧ ¬ l2 = 785) ∨ (lk = true ∧ rd = false ∧ ¬ q4 = 400 ∧ l2 = 785) ∨ (lk = true ∧ rd = true ∧ q4 = 400) ∨ (lk = true ∧ rd = true ∧ ¬ q4 = 400 ∧ ¬ (hd + 1) % 5 = 0) ∨ (lk = true ∧ rd = true ∧ ¬ q4 = 400 ∧ (hd + 1) % 5 = 0 ∧ bt = true) ∨ (lk = true ∧ rd = true ∧ ¬ q4 = 400 ∧ (hd + 1) % 5 = 0 ∧ bt = false ∧ w = 31) ∨ (lk = true ∧ rd = true ∧ ¬ q4 = 400 ∧ (hd + 1) % 5 = 0 ∧ bt = false ∧ ¬ w = 31) := by
  cases lk <;> cases rd <;> cases bt <;> simp <;> omega
theorem kT_lt {tgt nb : Nat} {st fa : Bool} {nf : Nat → Nat} (w : Nat) : (if w = 7 then jdg tgt st fa nb nf else 9) < 11 := by
  have := jdg_le tgt st fa nb nf
  split <;> omega
theorem kT_0 {tgt nb w : Nat} {st fa : Bool} {nf : Nat → Nat} (h : (if w = 7 then jdg tgt st fa nb nf else 9) = 0) : 26 ≤ nb ∧ byt nf 2 ≤ 24 ∧ nb / 2 = fsz (byt nf 2) + 4 := by
  split at h
  · exact jdg_0 h
  · omega
section TR
variable {tgt w nb : Nat} {st fa bt : Bool} {nf : Nat → Nat}
theorem tgR_T (h : bt = true) : tgR tgt w (st, fa, bt, nb, nf) = nI (if w = 7 then jdg tgt st fa nb nf else 9) := by
  subst h
  by_cases e : w = 7
  · rw [if_pos e]; subst e; rfl
  · rw [if_neg e]
    show (if w = 7 then nI (jdg tgt st fa nb nf) else nI 9) = nI 9
    rw [if_neg e]
theorem tgR_8 (h : bt = false) (hw : w = 31) : tgR tgt w (st, fa, bt, nb, nf) = nI 8 := by subst h; subst hw; rfl
theorem tgR_c (h : bt = false) (hw : ¬ w = 31) : tgR tgt w (st, fa, bt, nb, nf) = (-1) := by
  subst h
  show (if w = 31 then nI 8 else -1) = -1
  rw [if_neg hw]
theorem ls_gg {mk ear run qt on last hd nb2 : Nat} {st2 fa2 bt2 : Bool} {nf2 : Nat → Nat} {b : BX} (h : ¬ qtN (onM (plN mk ear) on) qt = 400) (h2 : (hd + 1) % 5 = 0) (h3 : ¬ (2 * last + plN mk ear) % 1024 % 32 = 31) (hbt : bt = false) (e : (st2, fa2, bt2, nb2, nf2) = tgS ((2 * last + plN mk ear) % 1024 % 32) (st, fa, bt, nb, nf)) : ((rN ear (kN ear), run, qtN (onM (plN mk ear) on) qt, onM (plN mk ear) on, (2 * last + plN mk ear) % 1024, hd + 1, true, true, (st2, fa2, bt2, nb2, nf2)), b, 0) = lStep tgt mk (ear, run, qt, on, last, hd, true, true, (st, fa, bt, nb, nf)) b := by
  subst hbt
  rw [ls_g h h2 h3, e]
end TR
