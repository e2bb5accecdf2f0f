/-! what the law's walk stands on -/
def ZG (tq N : Nat) (F : Nat → Nat → Int32) : yZ := fun A U H => va_T (.array .int) tq N (fun j => .ref (tq + 1 + j)) A U H ∧ ∀ j, j < N → va_T .int (tq + 1 + j) N (fun k => .int (F j k)) A U H
theorem fz_ZG (tq N : Nat) (F : Nat → Nat → Int32) : fz (ZG tq N F) := fz_and (fz_T _ _ _ _) (fz_all (P := fun j => j < N) (Z := fun j A U H => va_T .int (tq + 1 + j) N (fun k => .int (F j k)) A U H) (fun j => fz_T .int (tq + 1 + j) N (fun k => .int (F j k))))
def ZL (G g kk kv B : Nat → Nat) (al b tq L n : Nat) (xs : Nat → Int32) : yZ := fun A U H => xs_T G A U H ∧ (ZA al B A U H ∧ (ZJ g A U H ∧ (ZK kk kv A U H ∧ (ZI b L xs A U H ∧ ZG tq (qz_N n) (tb n) A U H))))
theorem fz_ZL (G g kk kv B : Nat → Nat) (al b tq L n : Nat) (xs : Nat → Int32) : fz (ZL G g kk kv B al b tq L n xs) := fz_and (fz_xs G) (fz_and (fz_ZA al B) (fz_and (fz_ZJ g) (fz_and (fz_ZK kk kv) (fz_and (fz_ZI b L xs) (fz_ZG tq (qz_N n) (tb n))))))
def LCx (p : Program) (s : State) (m : MethodId) (b : Nat) (meth : Method) (c : Code) (D : va_G) (cyI cyJ cyB cyQ : ClassId) (G g kk kv B : Nat → Nat) (al tq L n : Nat) (xs : Nat → Int32) (A : Nat → Prop) (H0 : Heap) : Prop :=
  yc_C p s m #[Value.ref b] meth c code 28 RL ret D xcl (ytys cyI cyJ cyB cyQ) (ZL G g kk kv B al b tq L n xs) A H0 ∧ (∀ q, A q → s.heap.size ≤ q) ∧ n < 8 ∧ L ≤ 260
theorem y_new_mid (W pre E : va_W) (u : Nat × va_E) : ((W ++ (pre ++ E)) ++ [u]).Perm (W ++ (pre ++ (u :: E))) := by
  rw [List.append_assoc, List.append_assoc]
  refine List.Perm.append_left _ (List.Perm.append_left _ ?_)
  exact List.perm_append_singleton u E
def tx (x y z : Nat) (j : Nat) : Nat := if j = 0 then x else if j = 1 then y else z
def th3 (x y z : Nat) : Nat → Int32 := fun j => nI (tx x y z j)
theorem tx_lt {x y z N : Nat} (hx : x < N) (hy : y < N) (hz : z < N) (j : Nat) : tx x y z j < N := by
  unfold tx
  split
  · exact hx
  · split
    · exact hy
    · exact hz
def lsP (x y z : Nat) : Nat → Nat
  | 0 => 0
  | i + 1 => max (lsP x y z i) (qz_S (tx x y z i) + fr (tx x y z i))
theorem lsP_3 (x y z : Nat) : lsP x y z 3 = leastN x y z := by
  show max (max (max 0 (qz_S x + fr x)) (qz_S y + fr y)) (qz_S z + fr z) = _
  rw [Nat.zero_max]
  rfl
theorem nI_max {a b : Nat} (ha : a < 2 ^ 31) (hb : b < 2 ^ 31) : (if nI a < nI b then nI b else nI a) = nI (max a b) := by
  by_cases h : a < b
  · rw [if_pos (nI_lt h hb), Nat.max_eq_right (by omega)]
  · rw [if_neg (nI_nlt (by omega) ha), Nat.max_eq_left (by omega)]
def xv (L : Nat) (xs : Nat → Int32) (j : Nat) : Nat := hlf (cel L xs (17 + j)) % 12
def thp (L : Nat) (xs : Nat → Int32) (k : Nat) : Nat → Int32 := fun j => if j < k then nI (xv L xs j) else 0
theorem thp_s (L : Nat) (xs : Nat → Int32) (k : Nat) : upd (thp L xs k) k (nI (xv L xs k)) = thp L xs (k + 1) := by
  funext j
  unfold upd thp
  by_cases e : j = k
  · subst e; rw [if_pos rfl, if_pos (Nat.lt_succ_self j)]
  · rw [if_neg e]
    by_cases h : j < k
    · rw [if_pos h, if_pos (by omega)]
    · rw [if_neg h, if_neg (by omega)]
theorem thp_3 (L : Nat) (xs : Nat → Int32) : ∀ j, j < 3 → thp L xs 3 j = th3 (xv L xs 0) (xv L xs 1) (xv L xs 2) j := by
  intro j hj
  unfold thp th3 tx
  rw [if_pos hj]
  rcases (show j = 0 ∨ j = 1 ∨ j = 2 by omega) with rfl | rfl | rfl <;> rfl
def odF (K : Nat) : Nat → Int32
  | 0 => 0
  | r + 1 => odF K r + (sr K r - 1)
def sgn (K : Nat) : Int32 := if odF K (sl K) - odF K (sl K) / 2 * 2 = 1 then -1 else 1
theorem lg0 {x y : Int64} (h : x = y) : lg_cmp x y = 0 := (lg_cmp_eq x y).mpr h
theorem lp_ord : ∀ k, k < 67 → szf (sr k) (sl k) = nI (qz_S k) ∧ qz_S k ≤ 8 ∧ (¬ byf (sr k) (sl k) = 0) ∧ xi_FACTORIALS (qz_S k) / byf (sr k) (sl k) = tz_O k := by decide +kernel
theorem lp_size : ∀ n, n < 9 → ∀ i, i < qz_N n → qz_S (qz_D n + i) = n := by decide +kernel
theorem lp_turn : ∀ k, k < 67 → fnd (tro (sr k) (sl k) (fr k)) (fr k) 67 0 = tz_turn k := by decide +kernel
theorem lp_fr : ∀ k, k < 67 → fr k ≤ 8 ∧ (0 < sl k → sr k 0 = nI (fr k)) := by decide +kernel
theorem lp_row : ∀ k, k < 67 → ∀ r, r < 8 → tz_R (8 * k + r) = if r < sl k then sr k r else 0 := by decide +kernel
theorem lp_grown : ∀ k, k < 12 → ∀ m, m < 9 → qz_S k + fr k ≤ m → dueV k m = nI (qz_D m + (gn k m - qz_D m)) ∧ gn k m - qz_D m < qz_N m := by decide +kernel
theorem lp_least : ∀ k, k < 12 → qz_S k + fr k ≤ 8 := by decide +kernel
theorem lp_tu : ∀ n, n < 9 → ∀ a, a < qz_N n → qz_turn (qz_D n + a) = qz_D n + tuP n a ∧ tuP n a < qz_N n := by decide +kernel
