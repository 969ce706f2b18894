/-! ===== the listener, in numbers ===== -/
def updN (f : Nat → Nat) (k x : Nat) : Nat → Nat := fun i => if i = k then x else f i
theorem updN_s {f : Nat → Nat} {k x i : Nat} (h : i = k) : updN f k x i = x := if_pos h
theorem updN_n {f : Nat → Nat} {k x i : Nat} (h : ¬ i = k) : updN f k x i = f i := if_neg h
/-- byte i of the nibbles; the check of the last four; how a frame that ends well is judged -/
def byt (nf : Nat → Nat) (i : Nat) : Nat := nf (2 * i) + 16 * nf (2 * i + 1)
def rcv (nf : Nat → Nat) (sz : Nat) : Int32 := ckV (fun i => nI (byt nf i)) (sz - 4)
def ckb (nf : Nat → Nat) (sz k : Nat) : Bool := decide (byt nf (sz - 4 + k) = (rcv nf sz).toBitVec.toNat / 2 ^ (8 * k) % 256)
def ckOK (nf : Nat → Nat) (sz : Nat) : Bool := ckb nf sz 0 && ckb nf sz 1 && ckb nf sz 2 && ckb nf sz 3
def jdg (tgt : Nat) (st fa : Bool) (nb : Nat) (nf : Nat → Nat) : Nat := if st = false then 1 else if fa = true then 2 else if nb % 2 = 1 then 3 else if nb < 26 then 4 else if ckOK nf (nb / 2) = false then 5 else if 24 < byt nf 2 ∨ ¬ nb / 2 = fsz (byt nf 2) + 4 then 6 else if ¬ byt nf 0 = tgt ∧ ¬ byt nf 0 = 255 then 7 else 0
/-- a nibble (16: none) is taken -/
def tkS (n : Nat) (st : Bool) : Bool := st || decide (n = 13)
def tkF (n : Nat) (st fa : Bool) : Bool := if n = 16 then true else fa || (!st && !decide (n = 13) && !decide (n = 5))
def tkB (n : Nat) (st : Bool) (nb : Nat) : Nat := if n = 16 then nb else if st = true then nb + 1 else nb
def tkV (n : Nat) (st : Bool) (nb : Nat) (nf : Nat → Nat) : Nat → Nat := if n = 16 then nf else if st = true then (updN nf nb n) else nf
/-- a group is taken: what the frame is then; its status if it ends -/
abbrev RS : Type := Bool × Bool × Bool × Nat × (Nat → Nat)
def tgS (w : Nat) (x : RS) : RS := if x.2.2.1 = true then x else if w = 31 then x else if w = 13 then (x.1, x.2.1, true, x.2.2.2.1, x.2.2.2.2) else (tkS (nN w) x.1, tkF (nN w) x.1 x.2.1, x.2.2.1, tkB (nN w) x.1 x.2.2.2.1, tkV (nN w) x.1 x.2.2.2.1 x.2.2.2.2)
def tgR (tgt w : Nat) (x : RS) : Int32 := if x.2.2.1 = true then (if w = 7 then nI (jdg tgt x.1 x.2.1 x.2.2.2.1 x.2.2.2.2) else nI 9) else if w = 31 then nI 8 else -1
/-- the program's bytes hold the nibbles -/
def RB (bf : Nat → Int32) (nb : Nat) (nf : Nat → Nat) : Prop := (∀ i, 2 * i < nb → bf i = nI (if 2 * i + 1 < nb then byt nf i else nf (2 * i))) ∧ ∀ i, i < nb → nf i < 16
theorem RB_0 {bf : Nat → Int32} {nf : Nat → Nat} : RB bf 0 nf := ⟨fun i h => by omega, fun i h => by omega⟩
theorem byt_lt {nf : Nat → Nat} {nb i : Nat} (h : ∀ i, i < nb → nf i < 16) (hi : 2 * i + 1 < nb) : byt nf i < 256 := by
  have h1 := h (2 * i) (by omega)
  have h2 := h (2 * i + 1) hi
  unfold byt
  omega
theorem RB_at {bf : Nat → Int32} {nb i : Nat} {nf : Nat → Nat} (h : RB bf nb nf) (hi : 2 * i + 1 < nb) : bf i = nI (byt nf i) := by
  rw [h.1 i (by omega), if_pos hi]
theorem RB_even {bf : Nat → Int32} {nb n : Nat} {nf : Nat → Nat} (h : RB bf nb nf) (he : nb % 2 = 0) (hn : n < 16) : RB (upd bf (nb / 2) (nI n)) (nb + 1) (updN nf nb n) := by
  refine ⟨fun i hi => ?_, fun i hi => ?_⟩
  · by_cases e : i = nb / 2
    · subst e
      rw [pk_us, if_neg (by omega), updN_s (by omega)]
    · rw [pk_un e, RB_at h (by omega), if_pos (by omega)]
      unfold byt
      rw [updN_n (by omega), updN_n (by omega)]
  · by_cases e : i = nb
    · rw [updN_s e]; exact hn
    · rw [updN_n e]; exact h.2 i (by omega)
theorem RB_odd {bf : Nat → Int32} {nb n : Nat} {nf : Nat → Nat} (h : RB bf nb nf) (he : ¬ nb % 2 = 0) (hn : n < 16) : RB (upd bf (nb / 2) (bf (nb / 2) + nI (16 * n))) (nb + 1) (updN nf nb n) := by
  refine ⟨fun i hi => ?_, fun i hi => ?_⟩
  · by_cases e : i = nb / 2
    · subst e
      rw [pk_us, if_pos (by omega), h.1 (nb / 2) (by omega), if_neg (by omega), nI_add]
      unfold byt
      rw [updN_n (by omega), updN_s (by omega)]
    · rw [pk_un e, RB_at h (by omega), if_pos (by omega)]
      unfold byt
      rw [updN_n (by omega), updN_n (by omega)]
  · by_cases e : i = nb
    · rw [updN_s e]; exact hn
    · rw [updN_n e]; exact h.2 i (by omega)
/-- a nibble as the table has it -/
def nbI (n : Nat) : Int32 := if n = 16 then -1 else nI n
theorem tabN_at : ∀ w, w < 32 → tabN.getD w 0 = nbI (nN w) := by decide +kernel
theorem tabG_at : ∀ n, n < 16 → tabG.getD n 0 = nI (gN n) := by decide +kernel
theorem nN_le : ∀ w, w < 32 → nN w ≤ 16 := by decide +kernel
theorem or_n {x b : Nat} (hb : b < 256) : nI (x * 256) ||| nI b = nI (x * 256 + b) := by
  have e : x * 256 ||| b = x * 256 + b := by
    have h := Nat.two_pow_add_eq_or_of_lt (i := 8) (b := b) hb x
    rw [show 2 ^ 8 * x = x * 256 by omega] at h
    exact h.symm
  rw [← e]
  apply Int32.toBitVec_inj.1
  show BitVec.ofNat 32 (x * 256) ||| BitVec.ofNat 32 b = BitVec.ofNat 32 (x * 256 ||| b)
  apply BitVec.eq_of_getLsbD_eq
  intro i hi
  simp [hi]
theorem ck_iff {nf : Nat → Nat} {sz : Nat} (h0 : byt nf (sz - 4 + 0) < 256) (h1 : byt nf (sz - 4 + 1) < 256) (h2 : byt nf (sz - 4 + 2) < 256) (h3 : byt nf (sz - 4 + 3) < 256) : nI ((((0 * 256 + byt nf (sz - 4 + 3)) * 256 + byt nf (sz - 4 + 2)) * 256 + byt nf (sz - 4 + 1)) * 256 + byt nf (sz - 4 + 0)) = rcv nf sz ↔ ckOK nf sz = true := by
  unfold ckOK ckb
  generalize byt nf (sz - 4 + 0) = b0 at *
  generalize byt nf (sz - 4 + 1) = b1 at *
  generalize byt nf (sz - 4 + 2) = b2 at *
  generalize byt nf (sz - 4 + 3) = b3 at *
  generalize rcv nf sz = C
  have hC : C.toBitVec.toNat < 2 ^ 32 := C.toBitVec.isLt
  simp only [Bool.and_eq_true, decide_eq_true_eq]
  constructor
  · intro h
    have e : (nI ((((0 * 256 + b3) * 256 + b2) * 256 + b1) * 256 + b0)).toBitVec.toNat = C.toBitVec.toNat := by rw [h]
    rw [pk_tn (by omega)] at e
    rw [← e]
    refine ⟨⟨⟨?_, ?_⟩, ?_⟩, ?_⟩ <;> simp only [Nat.reduceMul, Nat.reducePow] <;> omega
  · intro ⟨⟨⟨a0, a1⟩, a2⟩, a3⟩
    simp only [Nat.reduceMul, Nat.reducePow] at a0 a1 a2 a3
    apply Int32.toBitVec_inj.mp
    apply BitVec.eq_of_toNat_eq
    rw [pk_tn (by omega)]
    omega
