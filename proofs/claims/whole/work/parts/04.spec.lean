/-! ===== what the line does, in numbers ===== -/
/-- a register's key, its next value -/
def kN (r : Nat) : Nat := (r / 256 + r / 1024) % 2
def rN (r b : Nat) : Nat := (2 * r + b) % 2048
/-- a nibble's group; a group's nibble (16: none) -/
def gN (n : Nat) : Nat := match n with
  | 0 => 30 | 1 => 9 | 2 => 20 | 3 => 21 | 4 => 10 | 5 => 11 | 6 => 14 | 7 => 15 | 8 => 18 | 9 => 19 | 10 => 22 | 11 => 23 | 12 => 26 | 13 => 27 | 14 => 28 | _ => 29
def nN (g : Nat) : Nat := match g with
  | 30 => 0 | 9 => 1 | 20 => 2 | 21 => 3 | 10 => 4 | 11 => 5 | 14 => 6 | 15 => 7 | 18 => 8 | 19 => 9 | 22 => 10 | 23 => 11 | 26 => 12 | 27 => 13 | 28 => 14 | 29 => 15 | _ => 16
/-- the check: one round, eight rounds, a row of bytes -/
def ckR (c : Int32) : Int32 := if c &&& nI 1 = 0 then ((c).toUInt32 >>> ((nI 1).toUInt32 &&& Int32.toUInt32 31)).toInt32 else ((c).toUInt32 >>> ((nI 1).toUInt32 &&& Int32.toUInt32 31)).toInt32 ^^^ (-306674912)
def ckS (c : Int32) : Nat → Int32
  | 0 => c
  | k + 1 => ckR (ckS c k)
def ck (f : Nat → Int32) : Nat → Int32
  | 0 => -1
  | n + 1 => ckS (ck f n ^^^ f n) 8
def ckV (f : Nat → Int32) (n : Nat) : Int32 := ck f n ^^^ (-1)
theorem ck_congr {f g : Nat → Int32} : ∀ n, (∀ i, i < n → f i = g i) → ck f n = ck g n
  | 0, _ => rfl
  | n + 1, h => by
    show ckS (ck f n ^^^ f n) 8 = ckS (ck g n ^^^ g n) 8
    rw [ck_congr n (fun i hi => h i (by omega)), h n (by omega)]
/-- a frame: its body's size, its body, its bytes -/
def fsz (n : Nat) : Nat := 3 + max n 6
def bd (src t n : Nat) (d : Nat → Nat) (i : Nat) : Nat := if i = 0 then t else if i = 1 then src else if i = 2 then n else if i < 3 + n then d (i - 3) else 0
def fcv (src t n : Nat) (d : Nat → Nat) : Int32 := ckV (fun j => nI (bd src t n d j)) (fsz n)
def fb (src t n : Nat) (d : Nat → Nat) (i : Nat) : Nat := if i < fsz n then bd src t n d i else (fcv src t n d).toBitVec.toNat / 2 ^ (8 * (i - fsz n)) % 256
/-- its groups: B its bytes, len of them -/
def fg (B : Nat → Nat) (len j : Nat) : Nat := if j = 0 then 24 else if j = 1 then 17 else if j < 5 then 11 else if j = 5 then 27 else if j < 6 + 2 * len then (if j % 2 = 0 then gN (B ((j - 6) / 2) % 16) else gN (B ((j - 6) / 2) / 16)) else if j = 6 + 2 * len then 13 else 7
/-- bit k of a block of groups -/
def gb (gs : Nat → Nat) (k : Nat) : Nat := gs (k / 5) / 2 ^ (4 - k % 5) % 2
/-- the j-th waiting frame's bytes, out of the queue (32 places a frame: target, length, data) -/
def qB (src : Nat) (q : Nat → Nat) (j : Nat) : Nat → Nat := fb src (q (32 * j)) (q (32 * j + 1)) (fun i => q (32 * j + 2 + i))
theorem ckR_0 {c x : Int32} {k : Nat} (h : c = ckS x k) (hz : c &&& nI 1 = 0) : ((c).toUInt32 >>> ((nI 1).toUInt32 &&& Int32.toUInt32 31)).toInt32 = ckS x (k + 1) := by
  subst h
  show _ = ckR _
  unfold ckR
  rw [if_pos hz]
theorem ckR_1 {c x : Int32} {k : Nat} (h : c = ckS x k) (hz : ¬ c &&& nI 1 = 0) : ((c).toUInt32 >>> ((nI 1).toUInt32 &&& Int32.toUInt32 31)).toInt32 ^^^ (-306674912) = ckS x (k + 1) := by
  subst h
  show _ = ckR _
  unfold ckR
  rw [if_neg hz]
/-- the number from 0 on that an int is modulo d -/
def flm (x : Int32) (d : Nat) : Nat := (x.toInt % (d : Int)).toNat
theorem rem_t {x : Int32} {d : Nat} (hd : 0 < d) (hd2 : d < 2 ^ 30) : (x - x / nI d * nI d).toInt = x.toInt.tmod d := by
  have hne : nI d ≠ -1 := by
    intro h
    have h1 := nI_toInt (n := d) (by omega)
    rw [h] at h1
    have h2 : (-1 : Int32).toInt = -1 := by decide
    omega
  have e := nI_toInt (n := d) (by omega)
  rw [Int32.toInt_sub, Int32.toInt_mul, Int32.toInt_div_of_ne_right _ _ hne, e, Int.sub_bmod_bmod, Int.mul_comm, ← Int.tmod_def]
  have h1 := Int.tmod_lt_of_pos x.toInt (b := (d : Int)) (by omega)
  have h2 := Int.lt_tmod_of_pos x.toInt (b := (d : Int)) (by omega)
  exact Int.bmod_eq_of_le (by omega) (by omega)
theorem flm_a {x m : Int32} {d : Nat} (hd : 0 < d) (hd2 : d < 2 ^ 30) (em : m = x - x / nI d * nI d) (hp : 0 ≤ m) : m = nI (flm x d) := by
  have h1 := rem_t (x := x) hd hd2
  rw [← em] at h1
  have h2 := Int.tmod_lt_of_pos x.toInt (b := (d : Int)) (by omega)
  have h3 : 0 ≤ m.toInt := by simpa using Int32.le_iff_toInt_le.mp hp
  have h4 : x.toInt % (d : Int) = x.toInt.tmod d := by
    have e := Int.tmod_def x.toInt d
    have : x.toInt = x.toInt.tmod d + d * x.toInt.tdiv d := by omega
    rw [this, Int.add_mul_emod_self_left]
    rw [← this]
    exact Int.emod_eq_of_lt (by omega) h2
  apply Int32.toInt_inj.mp
  unfold flm
  rw [h4, nI_toInt (by omega), h1]
  omega
theorem flm_b {x m : Int32} {d : Nat} (hd : 0 < d) (hd2 : d < 2 ^ 30) (em : m = x - x / nI d * nI d) (hp : ¬ 0 ≤ m) : m + nI d = nI (flm x d) := by
  have h1 := rem_t (x := x) hd hd2
  rw [← em] at h1
  have h2 := Int.lt_tmod_of_pos x.toInt (b := (d : Int)) (by omega)
  have h3 : ¬ 0 ≤ m.toInt := fun q => hp (Int32.le_iff_toInt_le.mpr (by simpa using q))
  have h4 : x.toInt % (d : Int) = x.toInt.tmod d + d := by
    have e := Int.tmod_def x.toInt d
    have : x.toInt = (x.toInt.tmod d + d) + d * (x.toInt.tdiv d - 1) := by rw [Int.mul_sub]; omega
    rw [this, Int.add_mul_emod_self_left]
    rw [← this]
    exact Int.emod_eq_of_lt (by omega) (by omega)
  apply Int32.toInt_inj.mp
  unfold flm
  rw [h4, nI_toInt (by omega), Int32.toInt_add, nI_toInt (by omega), h1]
  have : (x.toInt.tmod d + (d : Int)).bmod (2 ^ 32) = x.toInt.tmod d + d := Int.bmod_eq_of_le (by omega) (by omega)
  rw [this]
  omega
theorem flm_lt (x : Int32) {d : Nat} (hd : 0 < d) : flm x d < d := by
  unfold flm
  have h1 := Int.emod_nonneg x.toInt (b := (d : Int)) (by omega)
  have h2 := Int.emod_lt_of_pos x.toInt (b := (d : Int)) (by omega)
  omega
theorem neg_msb (x : Int32) : x < 0 ↔ x.toBitVec.msb = true := by
  rw [Int32.lt_iff_toInt_lt, BitVec.msb_eq_toInt]
  simp
theorem flm_s {m : Int32} {d : Nat} (hd2 : d < 2 ^ 30) : (0 ≤ m ^^^ nI d ↔ 0 ≤ m) := by
  have h0 : (nI d).toBitVec.msb = false := by
    have := nI_pos (n := d) (by omega)
    rw [neg_msb] at this
    simpa using this
  have a : ∀ z : Int32, 0 ≤ z ↔ ¬ z.toBitVec.msb = true := fun z => by rw [← neg_msb]; exact Int32.not_lt.symm
  rw [a, a, Int32.toBitVec_xor, BitVec.msb_xor, h0]
  simp
/-- a byte -/
def isB (x : Int32) : Bool := decide (0 ≤ x) && decide (x < 256)
theorem isB_1 {x : Int32} (h : x < 0) : isB x = false := by
  have : ¬ (0 : Int32) ≤ x := Int32.not_le.mpr h
  simp [isB, this]
theorem isB_2 {x : Int32} (h : nI 256 ≤ x) : isB x = false := by
  have : ¬ x < (256 : Int32) := Int32.not_lt.mpr h
  simp [isB, this]
theorem isB_3 {x : Int32} (h1 : ¬ x < 0) (h2 : ¬ nI 256 ≤ x) : isB x = true := by
  have a1 : (0 : Int32) ≤ x := Int32.not_lt.mp h1
  have a2 : x < (256 : Int32) := Int32.not_le.mp h2
  simp [isB, a1, a2]
theorem isB_j {x : Int32} (h : isB x = true) : ∃ j : Nat, j < 256 ∧ x = nI j := by
  simp [isB] at h
  obtain ⟨h1, h2⟩ := h
  have h3 : ¬ x < 0 := Int32.not_lt.mpr h1
  obtain ⟨j, hj, rfl⟩ := nI_of h3
  have := Int32.lt_iff_toInt_lt.mp h2
  rw [nI_toInt hj] at this
  exact ⟨j, by simp at this; omega, rfl⟩
theorem mx_n {a b : Nat} (ha : a < 2 ^ 31) (hb : b < 2 ^ 31) : (if nI a < nI b then nI b else nI a) = nI (max a b) := by
  by_cases h : a < b
  · rw [if_pos (nI_lt h hb), Nat.max_eq_right (by omega)]
  · rw [if_neg (nI_nlt (by omega) ha), Nat.max_eq_left (by omega)]
theorem mn_n {a b : Nat} (ha : a < 2 ^ 31) (hb : b < 2 ^ 31) : (if nI b < nI a then nI b else nI a) = nI (min a b) := by
  by_cases h : b < a
  · rw [if_pos (nI_lt h ha), Nat.min_eq_right (by omega)]
  · rw [if_neg (nI_nlt (by omega) hb), Nat.min_eq_left (by omega)]
/-- the length of the latest good frame, as the program holds it; a byte of it -/
def glI (any : Bool) (n : Nat) : Int32 := if any = true then nI n else -1
def gbS (any : Bool) (n : Nat) (gd : Nat → Int32) (i : Int32) : Int32 := if any = true ∧ 0 ≤ i ∧ i < nI n then gd i.toNatClampNeg else -1
theorem gbS_1 {any : Bool} {n : Nat} {gd : Nat → Int32} {i : Int32} (h : i < 0) : -1 = gbS any n gd i := (if_neg (fun q => Int32.not_le.mpr h q.2.1)).symm
theorem gbS_2 {any : Bool} {n : Nat} {gd : Nat → Int32} {i : Int32} (h : ¬ i < glI any n) : -1 = gbS any n gd i := by
  refine (if_neg (fun q => h ?_)).symm
  unfold glI
  rw [if_pos q.1]
  exact q.2.2
theorem gbS_3 {any : Bool} {n : Nat} {i : Int32} (hn : n ≤ 24) (h1 : ¬ i < 0) (h2 : i < glI any n) : ∃ j : Nat, j < n ∧ i = nI j ∧ any = true := by
  obtain ⟨j, hj, rfl⟩ := nI_of h1
  cases any with
  | false =>
    have h3 : nI j < -1 := h2
    have := Int32.lt_iff_toInt_lt.mp h3
    rw [nI_toInt hj, show (-1 : Int32).toInt = -1 by decide] at this
    omega
  | true => exact ⟨j, (nI_ltI hj (by omega)).mp h2, rfl, rfl⟩
theorem gbS_4 {n j : Nat} {gd : Nat → Int32} (hn : n ≤ 24) (hj : j < n) : gd j = gbS true n gd (nI j) := by
  unfold gbS
  rw [if_pos ⟨rfl, nI_pos' (by omega), nI_lt hj (by omega)⟩, nI_clamp (by omega)]
theorem flm_p {x m : Int32} {d : Nat} (hd : 0 < d) (hd2 : d < 2 ^ 30) (em : m = x - x / nI d * nI d) (hp : 0 ≤ x) : 0 ≤ m := by
  have h1 := rem_t (x := x) hd hd2
  rw [← em] at h1
  have h3 : 0 ≤ x.toInt := by simpa using Int32.le_iff_toInt_le.mp hp
  have h4 := Int.tmod_nonneg (d : Int) h3
  rw [Int32.le_iff_toInt_le, h1]
  simpa using h4
theorem flm_n {x m : Int32} {d : Nat} (hd : 0 < d) (hd2 : d < 2 ^ 30) (em : m = x - x / nI d * nI d) (hp : ¬ 0 ≤ x) (hz : ¬ m = 0) : ¬ 0 ≤ m := by
  intro q
  have h1 := rem_t (x := x) hd hd2
  rw [← em] at h1
  have h3 : ¬ 0 ≤ x.toInt := fun r => hp (Int32.le_iff_toInt_le.mpr (by simpa using r))
  have h4 := Int.tmod_nonneg (a := -x.toInt) (d : Int) (by omega)
  rw [Int.neg_tmod] at h4
  have h5 : 0 ≤ m.toInt := by simpa using Int32.le_iff_toInt_le.mp q
  exact hz (Int32.toInt_inj.mp (by rw [Int32.toInt_zero]; omega))
