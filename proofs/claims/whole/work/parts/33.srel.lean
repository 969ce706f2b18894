/-! ===== the program's sender beside the numbers ===== -/
def SRel (gc gk inf idl g bl : Int32) (gf : Nat → Int32) (gs : Nat → Nat) (gn pos : Nat) (inF : Bool) (mi : Nat) : Prop :=
  (pos = 5 * gn → inf = nI 0 ∧ bl = nI 0 ∧ idl = nI (min (eN inF mi) 6)) ∧
  (pos < 5 * gn → inF = false → inf = nI 0 ∧ idl = nI (min (mi - 1) 6) ∧ g = nI 31 ∧ bl = nI (5 - pos)) ∧
  (pos < 5 * gn → inF = true → inf = nI 1 ∧ gc = nI gn ∧ gk = nI (pos / 5) ∧ gn ≤ 70 ∧ (∀ j, j < gn → gf j = nI (gs j)) ∧ (pos % 5 = 0 → bl = nI 0) ∧ (¬ pos % 5 = 0 → bl = nI (5 - pos % 5) ∧ g = nI (gs (pos / 5))))
section SR
variable {gc gk inf idl g bl : Int32} {gf : Nat → Int32} {gs : Nat → Nat} {gn pos mi : Nat} {inF : Bool}
/-- a block of idle is begun -/
theorem S_ci {e : Nat} : SRel gc gk (nI 0) (nI (min e 6)) (nI 31) (nI 4) gf (fun _ => 31) 1 1 false (e + 1) := by
  refine ⟨fun h => by omega, fun _ _ => ⟨rfl, ?_, rfl, rfl⟩, fun _ z => (by cases z)⟩
  rw [show e + 1 - 1 = e by omega]
/-- a frame is begun -/
theorem S_cf {Bf : Nat → Nat} {len e : Nat} (hl : len ≤ 31) (h : GR Bf len gf (2 * len + 8)) : SRel (nI (2 * len + 8)) (nI 0) (nI 1) idl (nI 24) (nI 4) gf (fg Bf len) (2 * len + 8) 1 true e := by
  refine ⟨fun h => by omega, fun _ z => (by cases z), fun _ _ => ⟨rfl, rfl, rfl, by omega, h, fun z => by omega, fun _ => ⟨rfl, ?_⟩⟩⟩
  show nI 24 = nI (fg Bf len 0)
  unfold fg
  rw [if_pos rfl]
/-- within idle -/
theorem S_bm (h : SRel gc gk inf idl g bl gf gs gn pos inF mi) (hp : pos < 5 * gn) (hF : inF = false) (hg : gn = 1) (h4 : pos < 4) : SRel gc gk inf idl g (nI (5 - pos - 1)) gf gs gn (pos + 1) inF mi := by
  obtain ⟨a1, a2, a3, a4⟩ := h.2.1 hp hF
  refine ⟨fun z => by omega, fun _ _ => ⟨a1, a2, a3, ?_⟩, fun _ z => (by rw [hF] at z; cases z)⟩
  rw [show 5 - (pos + 1) = 5 - pos - 1 by omega]
/-- idle's last bit -/
theorem S_be (hF : inF = false) (hg : gn = 1) (h4 : pos = 4) (hm : 1 ≤ mi) : SRel gc gk (nI 0) (nI (min (min (mi - 1) 6 + 1) 6)) g (nI 0) gf gs gn (pos + 1) inF mi := by
  refine ⟨fun _ => ⟨rfl, rfl, ?_⟩, fun z => by omega, fun z => by omega⟩
  rw [eN_0 hF]
  exact congrArg nI (by omega)
/-- the next group of a frame -/
theorem S_cn (h : SRel gc gk inf idl g bl gf gs gn pos inF mi) (hp : pos < 5 * gn) (hF : inF = true) (h0 : pos % 5 = 0) : SRel gc gk inf idl (nI (gs (pos / 5))) (nI 4) gf gs gn (pos + 1) inF mi := by
  obtain ⟨a1, a2, a3, a4, a5, a6, a7⟩ := h.2.2 hp hF
  refine ⟨fun z => by omega, fun _ z => (by rw [hF] at z; cases z), fun _ _ => ⟨a1, a2, ?_, a4, a5, fun z => by omega, fun _ => ⟨?_, ?_⟩⟩⟩
  · rw [show (pos + 1) / 5 = pos / 5 by omega]; exact a3
  · rw [show (pos + 1) % 5 = 1 by omega]
  · rw [show (pos + 1) / 5 = pos / 5 by omega]
/-- within a group -/
theorem S_cm (h : SRel gc gk inf idl g bl gf gs gn pos inF mi) (hp : pos < 5 * gn) (hF : inF = true) (h0 : ¬ pos % 5 = 0) (h4 : pos % 5 < 4) : SRel gc gk inf idl g (nI (5 - pos % 5 - 1)) gf gs gn (pos + 1) inF mi := by
  obtain ⟨a1, a2, a3, a4, a5, a6, a7⟩ := h.2.2 hp hF
  refine ⟨fun z => by omega, fun _ z => (by rw [hF] at z; cases z), fun _ _ => ⟨a1, a2, ?_, a4, a5, fun z => by omega, fun _ => ⟨?_, ?_⟩⟩⟩
  · rw [show (pos + 1) / 5 = pos / 5 by omega]; exact a3
  · rw [show (pos + 1) % 5 = pos % 5 + 1 by omega, show 5 - (pos % 5 + 1) = 5 - pos % 5 - 1 by omega]
  · rw [show (pos + 1) / 5 = pos / 5 by omega]; exact (a7 h0).2
/-- a group's last bit, others behind it -/
theorem S_ei (h : SRel gc gk inf idl g bl gf gs gn pos inF mi) (hp : pos < 5 * gn) (hF : inF = true) (h4 : pos % 5 = 4) (hn : pos / 5 + 1 < gn) : SRel gc (nI (pos / 5 + 1)) (nI 1) idl g (nI 0) gf gs gn (pos + 1) inF mi := by
  obtain ⟨a1, a2, a3, a4, a5, a6, a7⟩ := h.2.2 hp hF
  refine ⟨fun z => by omega, fun _ z => (by rw [hF] at z; cases z), fun _ _ => ⟨rfl, a2, ?_, a4, a5, fun _ => rfl, fun z => by omega⟩⟩
  rw [show (pos + 1) / 5 = pos / 5 + 1 by omega]
/-- a frame's last bit -/
theorem S_el (hp : pos < 5 * gn) (hF : inF = true) (h4 : pos % 5 = 4) (hn : ¬ pos / 5 + 1 < gn) : SRel gc gk (nI 0) (nI 0) g (nI 0) gf gs gn (pos + 1) inF mi := by
  refine ⟨fun _ => ⟨rfl, rfl, ?_⟩, fun z => by omega, fun z => by omega⟩
  rw [eN_1 hF]
  rfl
/-- which bit goes out -/
theorem gb_bm (hg : gs 0 = 31) (h : pos < 5) : 31 / 2 ^ (5 - pos - 1) % 2 = gb gs (pos + 1 - 1) := by
  show _ = gs (pos / 5) / 2 ^ (4 - pos % 5) % 2
  rw [show pos / 5 = 0 by omega, show pos % 5 = pos by omega, hg, show 5 - pos - 1 = 4 - pos by omega]
theorem gb_be (hg : gs 0 = 31) (h : pos = 4) : 31 / 2 ^ 0 % 2 = gb gs (pos + 1 - 1) := by
  subst h
  show _ = gs (4 / 5) / 2 ^ (4 - 4 % 5) % 2
  rw [show 4 / 5 = 0 from rfl, hg]
theorem gb_cn (h0 : pos % 5 = 0) : gs (pos / 5) / 2 ^ 4 % 2 = gb gs (pos + 1 - 1) := by
  show _ = gs (pos / 5) / 2 ^ (4 - pos % 5) % 2
  rw [h0]
theorem gb_cm (h4 : pos % 5 < 4) : gs (pos / 5) / 2 ^ (5 - pos % 5 - 1) % 2 = gb gs (pos + 1 - 1) := by
  show _ = gs (pos / 5) / 2 ^ (4 - pos % 5) % 2
  rw [show 5 - pos % 5 - 1 = 4 - pos % 5 by omega]
theorem gb_ce (h4 : pos % 5 = 4) : gs (pos / 5) / 2 ^ 0 % 2 = gb gs (pos + 1 - 1) := by
  show _ = gs (pos / 5) / 2 ^ (4 - pos % 5) % 2
  rw [h4]
theorem QRel_sh {src ff ql : Nat} {q : Nat → Nat} {Rw : Nat → Nat → Int32} (h : QRel src ff ql q Rw) (hW : QW ql q) (hff : ff < 4) : QRel src ((ff + 1) % 4) (ql - 1) (fun k => q (k + 32)) Rw := by
  intro j hj i hi
  have e2 : 32 * j + 1 + 32 = 32 * (j + 1) + 1 := by omega
  have hi' : i < fsz (q (32 * j + 1 + 32)) + 4 := hi
  rw [e2] at hi'
  have h1 := h (j + 1) (by omega) i hi'
  have e : qB src (fun k => q (k + 32)) j = qB src q (j + 1) := by
    have e0 : 32 * j + 32 = 32 * (j + 1) := by omega
    funext z
    unfold qB
    show fb src (q (32 * j + 32)) (q (32 * j + 1 + 32)) (fun i => q (32 * j + 2 + i + 32)) z = _
    rw [e0, e2]
    exact fb_congr (fun i _ => congrArg q (by omega)) z
  rw [e, show ((ff + 1) % 4 + j) % 4 = (ff + (j + 1)) % 4 by omega]
  exact h1
theorem s_cases (ql pos gn mi : Nat) (inF : Bool) (hps : pos ≤ 5 * gn) (h0 : pos < 5 * gn → 0 < pos) (h1 : pos < 5 * gn → inF = false → gn = 1) : (pos = 5 * gn ∧ (ql = 0 ∨ eN inF mi < 6)) ∨ (pos = 5 * gn ∧ 0 < ql ∧ 6 ≤ eN inF mi) ∨ (pos < 5 * gn ∧ inF = false ∧ pos < 4) ∨ (pos < 5 * gn ∧ inF = false ∧ pos = 4) ∨ (pos < 5 * gn ∧ inF = true ∧ pos % 5 = 0) ∨ (pos < 5 * gn ∧ inF = true ∧ ¬ pos % 5 = 0 ∧ pos % 5 < 4) ∨ (pos < 5 * gn ∧ inF = true ∧ pos % 5 = 4 ∧ pos / 5 + 1 < gn) ∨ (pos < 5 * gn ∧ inF = true ∧ pos % 5 = 4 ∧ ¬ pos / 5 + 1 < gn) := by
  by_cases hp : pos = 5 * gn
  · omega
  · cases inF with
    | false =>
      have := h1 (by omega) rfl
      simp
      omega
    | true =>
      simp
      omega
end SR
/-! ===== the program's hits beside the numbers ===== -/
def HRel (nx : Nat) (hf : Nat → Int32) (nw : Nat) (ht : Nat → Nat) (hv : Nat → Int32) : Prop := nx < 100 ∧ (∀ j, ht j ≤ nw + 100) ∧ (∀ j, ¬ hv j = nI 2) ∧ ∀ k, 1 ≤ k → k ≤ 100 → hf ((nx + k - 1) % 100) = if ht ((nw + k) % 128) = nw + k then hv ((nw + k) % 128) else nI 2
theorem H_lv {nx nw ph : Nat} {hf : Nat → Int32} {ht : Nat → Nat} {hv : Nat → Int32} (h : HRel nx hf nw ht hv) : (if hf nx = nI 2 then lvI ph else hf nx) = lvl ht hv (nw + 1) ph := by
  have h1 := h.2.2.2 1 (Nat.le_refl _) (by decide)
  have hx := h.1
  rw [show (nx + 1 - 1) % 100 = nx by omega] at h1
  unfold lvl
  by_cases e : ht ((nw + 1) % 128) = nw + 1
  · rw [if_pos e] at h1 ⊢
    rw [h1, if_neg (h.2.2.1 _)]
  · rw [if_neg e] at h1 ⊢
    rw [h1, if_pos rfl]
theorem H_s {nx nw : Nat} {hf : Nat → Int32} {ht : Nat → Nat} {hv : Nat → Int32} (h : HRel nx hf nw ht hv) : HRel ((nx + 1) % 100) (upd hf nx (nI 2)) (nw + 1) ht hv := by
  have hx := h.1
  refine ⟨Nat.mod_lt _ (by decide), fun j => by have := h.2.1 j; omega, h.2.2.1, fun k hk1 hk2 => ?_⟩
  by_cases e : k = 100
  · subst e
    rw [show ((nx + 1) % 100 + 100 - 1) % 100 = nx by omega, pk_us, if_neg (by have := h.2.1 ((nw + 1 + 100) % 128); omega)]
  · have h1 := h.2.2.2 (k + 1) (by omega) (by omega)
    rw [show ((nx + 1) % 100 + k - 1) % 100 = (nx + (k + 1) - 1) % 100 by omega, pk_un (by omega), h1, show nw + (k + 1) = nw + 1 + k by omega]
