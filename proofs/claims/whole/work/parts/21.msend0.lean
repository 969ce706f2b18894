/-- c groups are laid, bit by bit -/
def LB (gs : Nat → Nat) (bf : Nat → Int32) (c : Nat) : Prop := ∀ k, k < 5 * c → bf k = nI (gb gs k)
theorem LB_0 {gs : Nat → Nat} {bf : Nat → Int32} : LB gs bf 0 := fun k h => by omega
theorem LB_s {gs : Nat → Nat} {bf bf2 : Nat → Int32} {c bc w : Nat} (h : LB gs bf c) (hc : bc = 5 * c) (hl : LY bf bf2 bc w) (hw : gs c = w) : LB gs bf2 (c + 1) := by
  subst hc; subst hw
  intro k hk
  by_cases hlt : k < 5 * c
  · rw [hl.1 k hlt]; exact h k hlt
  · have h2 := hl.2 (k - 5 * c) (by omega)
    rw [show 5 * c + (k - 5 * c) = k by omega] at h2
    rw [h2]
    unfold gb
    rw [show k / 5 = c by omega, show k % 5 = k - 5 * c by omega]
theorem LB_6 {gs : Nat → Nat} {bf : Nat → Int32} {k4 : Nat} (hk : k4 = 4) (h : LB gs bf (2 + k4)) : LB gs bf (6 + 2 * 0) := by subst hk; exact h
theorem LB_t {gs : Nat → Nat} {bf : Nat → Int32} {i : Nat} (h : LB gs bf (6 + 2 * i + 1 + 1)) : LB gs bf (6 + 2 * (i + 1)) := by
  rw [show 6 + 2 * (i + 1) = 6 + 2 * i + 1 + 1 by omega]; exact h
theorem LB_c {gs : Nat → Nat} {bf : Nat → Int32} {c c' : Nat} (e : c = c') (h : LB gs bf c) : LB gs bf c' := by subst e; exact h
theorem fg_Tt {Bf : Nat → Nat} {len i : Nat} (h : i = len) : fg Bf len (6 + 2 * i) = 13 := by subst h; exact fg_T
theorem fg_Rt {Bf : Nat → Nat} {len i : Nat} (h : i = len) : fg Bf len (6 + 2 * i + 1) = 7 := by subst h; exact fg_R
theorem gb_J {Bf : Nat → Nat} {len : Nat} : gb (fg Bf len) 0 = 1 := by
  have h : fg Bf len 0 = 24 := by unfold fg; rw [if_pos rfl]
  show fg Bf len 0 / 2 ^ (4 - 0 % 5) % 2 = 1
  rw [h]
theorem fg_l4 {Bf : Nat → Nat} {len k : Nat} (h : k = 3) : fg Bf len (2 + k) = 27 := by
  subst h
  unfold fg
  rw [if_neg (by omega), if_neg (by omega), if_neg (by omega), if_pos rfl]
theorem bd_3 {src t n : Nat} {d : Nat → Nat} (yf : Nat → Int32) : ∀ j, j < 3 → upd (upd (upd yf 0 (nI t)) 1 (nI src)) 2 (nI n) j = nI (bd src t n d j) := fun j hj => by
  rcases (show j = 0 ∨ j = 1 ∨ j = 2 by omega) with rfl | rfl | rfl
  · rfl
  · rfl
  · rfl
theorem bd_s1 {src t i : Nat} {q : Nat → Nat} {y : Nat → Int32} (h3 : 3 ≤ i) (hi : i < 3 + q 1) (h : ∀ j, j < i → y j = nI (bd src t (q 1) (fun i => q (2 + i)) j)) : ∀ j, j < i + 1 → upd y i (nI (q (i - 1))) j = nI (bd src t (q 1) (fun i => q (2 + i)) j) := fun j hj => by
  by_cases e : j = i
  · subst e
    rw [pk_us]
    unfold bd
    rw [if_neg (by omega), if_neg (by omega), if_neg (by omega), if_pos hi]
    show nI (q (j - 1)) = nI (q (2 + (j - 3)))
    rw [show 2 + (j - 3) = j - 1 by omega]
  · rw [pk_un e]; exact h j (by omega)
theorem bd_s0 {src t i : Nat} {q : Nat → Nat} {y : Nat → Int32} (h3 : 3 ≤ i) (hi : 3 + q 1 ≤ i) (h : ∀ j, j < i → y j = nI (bd src t (q 1) (fun i => q (2 + i)) j)) : ∀ j, j < i + 1 → upd y i (nI 0) j = nI (bd src t (q 1) (fun i => q (2 + i)) j) := fun j hj => by
  by_cases e : j = i
  · subst e
    rw [pk_us]
    unfold bd
    rw [if_neg (by omega), if_neg (by omega), if_neg (by omega), if_neg (by omega)]
  · rw [pk_un e]; exact h j (by omega)
theorem bd_end {src t n i m : Nat} {d : Nat → Nat} {y : Nat → Int32} (hi : i = m) (h : ∀ j, j < i → y j = nI (bd src t n d j)) : ∀ j, j < m → y j = nI (bd src t n d j) := by subst hi; exact h
theorem qs_s {q : Nat → Nat} {qf qq : Nat → Int32} {ql k9 : Nat} (hq : QM qf ql q) (hk : k9 < 32 * (ql - 1)) (h : (∀ k, k < k9 → k % 32 < 26 → qq k = nI (q (k + 32))) ∧ ∀ k, k9 ≤ k → qq k = qf k) : (∀ k, k < k9 + 1 → k % 32 < 26 → upd qq k9 (qq (k9 + 32)) k = nI (q (k + 32))) ∧ ∀ k, k9 + 1 ≤ k → upd qq k9 (qq (k9 + 32)) k = qf k := by
  refine ⟨fun k hk1 hm => ?_, fun k hk1 => ?_⟩
  · by_cases e : k = k9
    · subst e
      rw [pk_us, h.2 _ (by omega)]
      exact hq _ (by omega) (by omega)
    · rw [pk_un e]; exact h.1 k (by omega) hm
  · rw [pk_un (by omega)]; exact h.2 k (by omega)
/-- idle groups since the last frame, as they count when a block is begun -/
def eN (inF : Bool) (mi : Nat) : Nat := if inF = true then 0 else mi
theorem eN_1 {inF : Bool} {mi : Nat} (h : inF = true) : eN inF mi = 0 := if_pos h
theorem eN_0 {inF : Bool} {mi : Nat} (h : inF = false) : eN inF mi = mi := if_neg (by rw [h]; decide)
theorem eN_le (inF : Bool) (mi : Nat) : eN inF mi ≤ mi := by unfold eN; split <;> omega
