/-! ===== what the line does, in numbers ===== -/
/-- a register's key, its next value -/
def kN (r : Nat) : Nat := (r / 256 + r / 1024) % 2
def rN (r b : Nat) : Nat := (2 * r + b) % 2048
/-- a nibble's group; a group's nibble (16: none) -/
def gN (n : Nat) : Nat := match n with
  | 0 => 30 | 1 => 9 | 2 => 20 | 3 => 21 | 4 => 10 | 5 => 11 | 6 => 14 | 7 => 15 | 8 => 18 | 9 => 19 | 10 => 22 | 11 => 23 | 12 => 26 | 13 => 27 | 14 => 28 | _ => 29
def nN (g : Nat) : Nat := match g with
  | 30 => 0 | 9 => 1 | 20 => 2 | 21 => 3 | 10 => 4 | 11 => 5 | 14 => 6 | 15 => 7 | 18 => 8 | 19 => 9 | 22 => 10 | 23 => 11 | 26 => 12 | 27 => 13 | 28 => 14 | 29 => 15 | _ => 16
/-- the check: one round, eight rounds, a row of bytes -/
def ckR (c : Int32) : Int32 := if c &&& 1 = 0 then (c.toUInt32 >>> ((1 : Int32).toUInt32 &&& Int32.toUInt32 31)).toInt32 else (c.toUInt32 >>> ((1 : Int32).toUInt32 &&& Int32.toUInt32 31)).toInt32 ^^^ (-306674912)
def ckS (c : Int32) : Nat → Int32
  | 0 => c
  | k + 1 => ckR (ckS c k)
def ck (f : Nat → Int32) : Nat → Int32
  | 0 => -1
  | n + 1 => ckS (ck f n ^^^ f n) 8
def ckV (f : Nat → Int32) (n : Nat) : Int32 := ck f n ^^^ (-1)
theorem ck_congr {f g : Nat → Int32} : ∀ n, (∀ i, i < n → f i = g i) → ck f n = ck g n
  | 0, _ => rfl
  | n + 1, h => by
    show ckS (ck f n ^^^ f n) 8 = ckS (ck g n ^^^ g n) 8
    rw [ck_congr n (fun i hi => h i (by omega)), h n (by omega)]
/-- a frame: its body's size, its body, its bytes -/
def fsz (n : Nat) : Nat := 3 + max n 6
def bd (src t n : Nat) (d : Nat → Nat) (i : Nat) : Nat := if i = 0 then t else if i = 1 then src else if i = 2 then n else if i < 3 + n then d (i - 3) else 0
def fcv (src t n : Nat) (d : Nat → Nat) : Int32 := ckV (fun j => nI (bd src t n d j)) (fsz n)
def fb (src t n : Nat) (d : Nat → Nat) (i : Nat) : Nat := if i < fsz n then bd src t n d i else (fcv src t n d).toBitVec.toNat / 2 ^ (8 * (i - fsz n)) % 256
/-- its groups: B its bytes, len of them -/
def fg (B : Nat → Nat) (len j : Nat) : Nat := if j = 0 then 24 else if j = 1 then 17 else if j < 5 then 11 else if j = 5 then 27 else if j < 6 + 2 * len then (if j % 2 = 0 then gN (B ((j - 6) / 2) % 16) else gN (B ((j - 6) / 2) / 16)) else if j = 6 + 2 * len then 13 else 7
/-- bit k of a block of groups -/
def gb (gs : Nat → Nat) (k : Nat) : Nat := gs (k / 5) / 2 ^ (4 - k % 5) % 2
/-- the j-th waiting frame's bytes, out of the queue (32 places a frame: target, length, data) -/
def qB (src : Nat) (q : Nat → Nat) (j : Nat) : Nat → Nat := fb src (q (32 * j)) (q (32 * j + 1)) (fun i => q (32 * j + 2 + i))
