/-! the law's own helpers, as numbers -/
def cel (N : Nat) (f : Nat → Int32) (k : Nat) : Int32 := if k < N then f k else (40503 : Int32) * nI k
def szf (f : Nat → Int32) : Nat → Int32
  | 0 => 0
  | k + 1 => szf f k + f k
def alk (f : Nat → Int32) (r : Nat) : Nat → Int32
  | 0 => 0
  | q + 1 => if f q = f r then alk f r q + 1 else alk f r q
def byf (f : Nat → Int32) : Nat → Int32
  | 0 => 1
  | r + 1 => byf f r * (f r * alk f r (r + 1))
def chP (ck beads b : Int32) : Int32 := f_J6_bitCount ((beads >>> ((b - ck + 1) &&& 31)) &&& (((1 : Int32) <<< ((b - (b - ck) - 1) &&& 31)) - 1))
def chN (ck beads b : Int32) : Int32 := (beads &&& (((1 : Int32) <<< (b &&& 31)) ^^^ (-1))) ||| ((1 : Int32) <<< ((b - ck) &&& 31))
def chS (ck : Int32) (rec : Int32 → Int32) (beads b sum : Int32) : Int32 :=
  if (beads >>> (b &&& 31)) &&& 1 = 0 then sum else if (beads >>> ((b - ck) &&& 31)) &&& 1 = 1 then sum else sum + (if chP ck beads b - chP ck beads b / 2 * 2 = 1 then (-1 : Int32) else 1) * rec (chN ck beads b)
def chL (ck : Int32) (rec : Int32 → Int32) (beads : Int32) : Nat → Int32 → Int32
  | 0, sum => sum
  | n + 1, sum => chL ck rec beads n (chS ck rec beads (nI (15 - n)) sum)
def chF (c : Nat → Nat) (M : Nat) : Nat → Int32 → Int32
  | 0, _ => 1
  | d + 1, beads => chL (nI (c (M - (d + 1)))) (chF c M d) beads (16 - c (M - (d + 1))) 0
def bdf (f : Nat → Int32) (N : Nat) : Nat → Int32
  | 0 => 0
  | r + 1 => bdf f N r ||| ((1 : Int32) <<< ((f r + nI N - 1 - nI r) &&& 31))
def cha (f : Nat → Int32) (N : Nat) (c : Nat → Nat) (M : Nat) : Int32 := chF c M M (bdf f N N)
def tri (f : Nat → Int32) (g : Nat → Int32) (c : Nat) : Nat → Nat → Int32
  | 0 => g
  | i + 1 => if nI c < f i then upd (tri f g c i) c (tri f g c i c + 1) else tri f g c i
def tro (f : Nat → Int32) (N : Nat) : Nat → Nat → Int32
  | 0 => fun _ => 0
  | c + 1 => tri f (tro f N c) c N
def mtc (f : Nat → Int32) (N k : Nat) : Nat → Bool
  | 0 => decide (qz_L k = N)
  | r + 1 => mtc f N k r && decide (tz_R (8 * k + r) = f r)
def fnd (f : Nat → Int32) (N : Nat) : Nat → Nat → Int32
  | 0, _ => -9
  | d + 1, k => if mtc f N k N then nI k else fnd f N d (k + 1)
def hlf (x : Int32) : Nat := x.toBitVec.toNat / 2
theorem hlf_lt (x : Int32) : hlf x < 2 ^ 31 := by
  have := x.toBitVec.isLt
  unfold hlf
  omega
theorem hlf_eq (x : Int32) : (x.toUInt32 >>> ((1 : Int32).toUInt32 &&& Int32.toUInt32 31)).toInt32 = nI (hlf x) := by
  have h := pk_ushr x 1 1 (by decide)
  have h2 : (nI (hlf x)).toBitVec.toNat = hlf x := pk_tn (by have := hlf_lt x; omega)
  have h3 : (x.toUInt32 >>> ((1 : Int32).toUInt32 &&& Int32.toUInt32 31)).toInt32.toBitVec = (nI (hlf x)).toBitVec := BitVec.eq_of_toNat_eq (by rw [h2, h]; rfl)
  exact Int32.toBitVec_inj.mp h3
def dra (N : Nat) (f : Nat → Int32) (at_ many : Nat) : Nat → Nat → Int32
  | 0 => fun _ => 0
  | i + 1 => upd (dra N f at_ many i) (hlf (cel N f (at_ + i)) / 256 % many) (nI (hlf (cel N f (at_ + i)) % 41) - 20)
def sl (j : Nat) : Nat := qz_L j
def sr (j k : Nat) : Int32 := tz_R (8 * j + k)
def sc (j k : Nat) : Nat := qz_R (8 * j + k)
/-- all shapes, by numbers: what the law has made of them, and never writes again -/
def ZA (al : Nat) (B : Nat → Nat) : yZ := fun A U H => va_T (.array .int) al 67 (fun j => .ref (B j)) A U H ∧ ∀ j, j < 67 → va_T .int (B j) (sl j) (fun k => .int (sr j k)) A U H
theorem fz_ZA (al : Nat) (B : Nat → Nat) : fz (ZA al B) := fz_and (fz_T _ _ _ _) (fz_all (P := fun j => j < 67) (Z := fun j A U H => va_T .int (B j) (sl j) (fun k => .int (sr j k)) A U H) (fun j => fz_T .int (B j) (sl j) (fun k => .int (sr j k))))
def ZI (a N : Nat) (f : Nat → Int32) : yZ := fun A U H => va_T .int a N (fun k => .int (f k)) A U H
theorem fz_ZI (a N : Nat) (f : Nat → Int32) : fz (ZI a N f) := fz_T _ _ _ _
