/-! ===== the program's listener beside the numbers ===== -/
def LRel (mo rk on qt lb nbv g gb stv fav btv : Int32) (byf : Nat → Int32) (x : LSt) : Prop := match x with
  | (ear, run, qtn, onn, last, hd, lk, rd, (st, fa, bt, nb, nf)) => (lk = false → mo = nI 0 ∧ rk = nI run) ∧ (lk = true → on = nI (min onn 10) ∧ qt = nI qtn) ∧ (lk = true → rd = false → mo = nI 1 ∧ lb = nI last) ∧ (lk = true → rd = true → mo = nI 2 ∧ nbv = nI nb ∧ g = nI (last % 2 ^ (hd % 5)) ∧ gb = nI (hd % 5) ∧ stv = bI st ∧ fav = bI fa ∧ btv = bI bt ∧ RB byf nb nf)
/-- what has come, as the program holds it -/
def IRel (gv lv : Int32) (cf gf : Nat → Int32) (b : BX) : Prop := match b with
  | (cn, any, gsr, gln, gd) => (∀ k, k < 11 → cf k = nI (cn k)) ∧ gv = (if any = true then nI gsr else -1) ∧ lv = glI any gln ∧ gln ≤ 24 ∧ ∀ i, i < gln → gf i = nI (gd i)
section LR
variable {mo rk on qt lb nbv g gb stv fav btv : Int32} {byf : Nat → Int32} {ear run qtn onn last hd nb tgt mk : Nat} {lk rd st fa bt : Bool} {nf : Nat → Nat} {b : BX}
theorem on_min (pl on : Nat) : onN pl (min on 10) = min (onM pl on) 10 := by
  unfold onN onM
  by_cases h : pl = 1
  · rw [if_pos h, if_pos h]; omega
  · rw [if_neg h, if_neg h]; omega
theorem qt_min (o q : Nat) : qtN (min o 10) q = qtN o q := by
  unfold qtN
  by_cases h : 10 ≤ o
  · rw [if_pos h, if_pos (by omega)]
  · rw [if_neg h, if_neg (by omega)]
theorem qt_on (pl on q : Nat) : qtN (onN pl (min on 10)) q = qtN (onM pl on) q := by rw [on_min, qt_min]
theorem L_no : LRel (nI 0) (nI (rkN ear mk run)) on qt lb nbv g gb stv fav btv byf (rN ear (1 - mk), rkN ear mk run, qtn, onn, last, hd, false, rd, (st, fa, bt, nb, nf)) := ⟨fun _ => ⟨rfl, rfl⟩, fun z => (by cases z), fun z => (by cases z), fun z => (by cases z)⟩
theorem L_yes : LRel (nI 1) rk (nI 0) (nI 0) (nI 0) nbv g gb stv fav btv byf (rN ear (1 - mk), rkN ear mk run, 0, 0, 0, 0, true, false, (st, fa, bt, nb, nf)) := ⟨fun z => (by cases z), fun _ => ⟨rfl, rfl⟩, fun _ _ => ⟨rfl, rfl⟩, fun _ z => (by cases z)⟩
theorem L_lost {e l h : Nat} : LRel (nI 0) (nI 0) on qt lb nbv g gb stv fav btv byf (e, 0, qtn, onn, l, h, false, false, (st, fa, bt, nb, nf)) := ⟨fun _ => ⟨rfl, rfl⟩, fun z => (by cases z), fun z => (by cases z), fun z => (by cases z)⟩
theorem L_hn {e h : Nat} : LRel (nI 1) rk (nI (onN (plN mk ear) (min onn 10))) (nI (qtN (onN (plN mk ear) (min onn 10)) qtn)) (nI ((2 * last + plN mk ear) % 1024)) nbv g gb stv fav btv byf (e, run, qtN (onM (plN mk ear) onn) qtn, onM (plN mk ear) onn, (2 * last + plN mk ear) % 1024, h, true, false, (st, fa, bt, nb, nf)) := ⟨fun z => (by cases z), fun _ => ⟨by rw [on_min], by rw [qt_on]⟩, fun _ _ => ⟨rfl, rfl⟩, fun _ z => (by cases z)⟩
theorem L_hy {e : Nat} : LRel (nI 2) rk (nI (onN (plN mk ear) (min onn 10))) (nI (qtN (onN (plN mk ear) (min onn 10)) qtn)) lb (nI 0) (nI 0) (nI 0) (nI 0) (nI 0) (nI 0) byf (e, run, qtN (onM (plN mk ear) onn) qtn, onM (plN mk ear) onn, (2 * last + plN mk ear) % 1024, 0, true, true, (false, false, false, 0, nf)) := ⟨fun z => (by cases z), fun _ => ⟨by rw [on_min], by rw [qt_on]⟩, fun _ z => (by cases z), fun _ _ => ⟨rfl, rfl, congrArg nI (Nat.mod_one _).symm, rfl, rfl, rfl, rfl, RB_0⟩⟩
theorem L_end {e : Nat} : LRel (nI 1) rk (nI (onN (plN mk ear) (min onn 10))) (nI (qtN (onN (plN mk ear) (min onn 10)) qtn)) (nI 0) nbv g gb stv fav btv byf (e, run, qtN (onM (plN mk ear) onn) qtn, onM (plN mk ear) onn, 0, 0, true, false, (st, fa, bt, nb, nf)) := ⟨fun z => (by cases z), fun _ => ⟨by rw [on_min], by rw [qt_on]⟩, fun _ _ => ⟨rfl, rfl⟩, fun _ z => (by cases z)⟩
theorem g_in {last hd p : Nat} (hp : p < 2) (h : ¬ (hd + 1) % 5 = 0) : 2 * (last % 2 ^ (hd % 5)) + p = (2 * last + p) % 1024 % 2 ^ ((hd + 1) % 5) := by
  have hj := Nat.mod_lt hd (show 0 < 5 by decide)
  have e : (hd + 1) % 5 = hd % 5 + 1 := by omega
  rw [e]
  rcases (show hd % 5 = 0 ∨ hd % 5 = 1 ∨ hd % 5 = 2 ∨ hd % 5 = 3 by omega) with q | q | q | q <;> rw [q] <;> simp only [Nat.reducePow, Nat.reduceAdd] <;> omega
theorem g_end {last hd p : Nat} (hp : p < 2) (h : (hd + 1) % 5 = 0) : 2 * (last % 2 ^ (hd % 5)) + p = (2 * last + p) % 1024 % 32 := by
  rw [show hd % 5 = 4 by omega]
  simp only [Nat.reducePow]
  omega
theorem L_in {e : Nat} (hp : plN mk ear < 2) (h5 : ¬ (hd + 1) % 5 = 0) (hB : RB byf nb nf) : LRel (nI 2) rk (nI (onN (plN mk ear) (min onn 10))) (nI (qtN (onN (plN mk ear) (min onn 10)) qtn)) lb (nI nb) (nI (2 * (last % 2 ^ (hd % 5)) + plN mk ear)) (nI (hd % 5 + 1)) (bI st) (bI fa) (bI bt) byf (e, run, qtN (onM (plN mk ear) onn) qtn, onM (plN mk ear) onn, (2 * last + plN mk ear) % 1024, hd + 1, true, true, (st, fa, bt, nb, nf)) := ⟨fun z => (by cases z), fun _ => ⟨by rw [on_min], by rw [qt_on]⟩, fun _ z => (by cases z), fun _ _ => ⟨rfl, rfl, congrArg nI (g_in hp h5), congrArg nI (by omega), rfl, rfl, rfl, hB⟩⟩
theorem L_ct {e : Nat} (h5 : (hd + 1) % 5 = 0) (hB : RB byf nb nf) : LRel (nI 2) rk (nI (onN (plN mk ear) (min onn 10))) (nI (qtN (onN (plN mk ear) (min onn 10)) qtn)) lb (nI nb) (nI 0) (nI 0) (bI st) (bI fa) (bI bt) byf (e, run, qtN (onM (plN mk ear) onn) qtn, onM (plN mk ear) onn, (2 * last + plN mk ear) % 1024, hd + 1, true, true, (st, fa, bt, nb, nf)) := ⟨fun z => (by cases z), fun _ => ⟨by rw [on_min], by rw [qt_on]⟩, fun _ z => (by cases z), fun _ _ => ⟨rfl, rfl, congrArg nI (by rw [h5]; exact (Nat.mod_one _).symm), congrArg nI h5.symm, rfl, rfl, rfl, hB⟩⟩
end LR
section IR
variable {gv lv gv2 lv2 : Int32} {cf gf gf2 bf : Nat → Int32} {nf : Nat → Nat} {b : BX}
theorem I_nz {k : Nat} (h : IRel gv lv cf gf b) (hk : k < 11) (h0 : ¬ k = 0) : IRel gv lv (upd cf k (cf k + nI 1)) gf (bxN k nf b) := by
  obtain ⟨cn, any, gsr, gln, gd⟩ := b
  rw [bx_nz h0]
  exact ⟨cnt_s h.1 hk, h.2⟩
theorem I_k {k nb : Nat} (h : IRel gv lv cf gf b) (hk : k < 11) (h26 : k = 0 → 26 ≤ nb ∧ byt nf 2 ≤ 24 ∧ nb / 2 = fsz (byt nf 2) + 4) (hB : RB bf nb nf) (hz : k = 0 → gv2 = bf 1 ∧ lv2 = nI (byt nf 2) ∧ gf2 = va_cpy bf gf 3 0 (byt nf 2)) (hnz : ¬ k = 0 → gv2 = gv ∧ lv2 = lv ∧ gf2 = gf) : IRel gv2 lv2 (upd cf k (cf k + nI 1)) gf2 (bxN k nf b) := by
  by_cases e : k = 0
  · obtain ⟨h1, h2, h3⟩ := h26 e
    obtain ⟨rfl, rfl, rfl⟩ := hz e
    obtain ⟨cn, any, gsr, gln, gd⟩ := b
    have h4 : fsz (byt nf 2) = 3 + max (byt nf 2) 6 := rfl
    have hx : bxN k nf (cn, any, gsr, gln, gd) = (updN cn k (cn k + 1), true, byt nf 1, byt nf 2, fun i => byt nf (3 + i)) := by unfold bxN; rw [if_pos e]
    rw [hx]
    refine ⟨cnt_s h.1 hk, ?_, rfl, h2, fun i hi => ?_⟩
    · rw [if_pos rfl]; exact RB_at hB (by omega)
    · rw [pk_cpy_in (by omega) (by omega), show 3 + (i - 0) = 3 + i by omega]
      exact RB_at hB (by omega)
  · obtain ⟨rfl, rfl, rfl⟩ := hnz e
    exact I_nz h hk e
end IR
theorem jdg_0 {tgt nb : Nat} {st fa : Bool} {nf : Nat → Nat} (h : jdg tgt st fa nb nf = 0) : 26 ≤ nb ∧ byt nf 2 ≤ 24 ∧ nb / 2 = fsz (byt nf 2) + 4 := by
  unfold jdg at h
  split at h
  · omega
  · split at h
    · omega
    · split at h
      · omega
      · split at h
        · omega
        · split at h
          · omega
          · split at h
            · omega
            · exact ⟨by omega, by omega, by omega⟩
