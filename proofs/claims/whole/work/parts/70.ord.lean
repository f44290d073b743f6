/-! ORDERS: the 120 orders of five, by rank and as numbers in base 5 -/
def pmL : List Nat := [194, 198, 214, 222, 238, 242, 294, 298, 334, 346, 358, 366, 414, 422, 434, 446, 482, 486, 538, 542, 558, 566, 582, 586, 694, 698, 714, 722, 738, 742, 894, 898, 954, 970, 978, 990, 1014, 1022, 1054, 1070, 1102, 1110, 1138, 1142, 1178, 1190, 1202, 1210, 1294, 1298, 1334, 1346, 1358, 1366, 1394, 1398, 1454, 1470, 1478, 1490, 1634, 1646, 1654, 1670, 1726, 1730, 1758, 1766, 1778, 1790, 1826, 1830, 1914, 1922, 1934, 1946, 1982, 1986, 2014, 2022, 2054, 2070, 2102, 2110, 2134, 2146, 2154, 2170, 2226, 2230, 2382, 2386, 2402, 2410, 2426, 2430, 2538, 2542, 2558, 2566, 2582, 2586, 2638, 2642, 2678, 2690, 2702, 2710, 2758, 2766, 2778, 2790, 2826, 2830, 2882, 2886, 2902, 2910, 2926, 2930]
def pm (i : Nat) : Nat := pmL.getD i 0
def dD (n d : Nat) : Nat := n / 5 ^ d % 5
def nu (i p : Nat) : Nat := dD (pm i) (4 - p)
def us (i p : Nat) : Nat := fN (fun q a => a ||| 2 ^ nu i q) p 0
def nb (i p : Nat) : Nat := fN (fun q a => 10 * a + nu i q) p 0
def rowN (i : Nat) : Nat := nb i 5
def plO (i u : Nat) : Nat := if nu i 0 = u then 0 else if nu i 1 = u then 1 else if nu i 2 = u then 2 else if nu i 3 = u then 3 else 4
/-- the unused nut with so many unused ones ahead -/
def uF (u a : Nat) : Nat → Nat → Nat → Nat
  | 0, _, _ => 0
  | d + 1, k, c => if u.testBit k = true then uF u a d (k + 1) c else if c = a then k else uF u a d (k + 1) (c + 1)
def uA (i p : Nat) : Nat := if p = 0 then i / 24 else if p = 1 then i / 6 % 4 else if p = 2 then i / 2 % 3 else if p = 3 then i % 2 else 0
def bn (n : Nat) (d : Nat) : Nat := fN (fun q a => a ||| 2 ^ dD n q) d 0
abbrev isO (n : Nat) : Prop := bn n 5 = 31
def rowM (n : Nat) : Nat := n / 625 * 10000 + n / 125 % 5 * 1000 + n / 25 % 5 * 100 + n / 5 % 5 * 10 + n % 5
theorem o_1 : ∀ i, i < 120 → ∀ p, p < 5 → uF (us i p) (uA i p) 5 0 0 = nu i p ∧ nu i p < 5 ∧ us i p < 32 ∧ uA i p < 5 ∧ ∀ q, q < p → nu i q ≠ nu i p := by decide +kernel
theorem o_2 : ∀ i, i < 120 → ∀ u, u < 5 → nu i (plO i u) = u ∧ plO i u < 5 := by decide +kernel
theorem o_3 {i a b : Nat} (hi : i < 120) (ha : a < 5) (hb : b < 5) (h : plO i a = plO i b) : a = b := by
  rw [← (o_2 i hi a ha).1, ← (o_2 i hi b hb).1, h]
theorem o_4a : ∀ a, a < 25 → ∀ b, b < 125 → isO (125 * a + b) → ∀ d, d < 5 → ∀ e, e < d → dD (125 * a + b) e ≠ dD (125 * a + b) d := by decide +kernel
theorem o_5a : ∀ a, a < 25 → ∀ b, b < 125 → isO (125 * a + b) → ∃ i, i < 120 ∧ pm i = 125 * a + b := by decide +kernel
theorem o_4 (n : Nat) (hn : n < 3125) : isO n → ∀ d, d < 5 → ∀ e, e < d → dD n e ≠ dD n d := by
  have h := o_4a (n / 125) (by omega) (n % 125) (by omega)
  rw [Nat.div_add_mod] at h
  exact h
theorem o_5 (n : Nat) (hn : n < 3125) : isO n → ∃ i, i < 120 ∧ pm i = n := by
  have h := o_5a (n / 125) (by omega) (n % 125) (by omega)
  rw [Nat.div_add_mod] at h
  exact h
theorem o_6 : ∀ i, i < 120 → isO (pm i) ∧ pm i < 3125 ∧ rowM (pm i) = rowN i := by decide +kernel
theorem o_7 : ∀ i, i < 119 → pm i < pm (i + 1) := by decide +kernel
theorem o_8 {i j : Nat} (h : i < j) (hj : j < 120) : pm i < pm j := by
  induction j with
  | zero => omega
  | succ j ih =>
    have a := o_7 j (by omega)
    by_cases e : i = j
    · rw [e]; exact a
    · have := ih (by omega) (by omega); omega
theorem o_9 : ∀ u, u < 32 → ∀ k, k < 5 → ((nI u >>> (nI k &&& 31)) &&& 1 = 0 ↔ u.testBit k = false) := by decide +kernel
theorem bn_lt {n : Nat} : ∀ d, bn n d < 32
  | 0 => show (0 : Nat) < 32 by decide
  | d + 1 => by
    show bn n d ||| 2 ^ dD n d < 2 ^ 5
    refine Nat.or_lt_two_pow (bn_lt d) ?_
    exact Nat.pow_lt_pow_right (by decide) (Nat.mod_lt _ (by decide))
/-- how far the orders below n go -/
def At (n i : Nat) : Prop := i ≤ 120 ∧ (∀ j, j < i → pm j < n) ∧ ∀ j, i ≤ j → j < 120 → n ≤ pm j
theorem at_0 : At 0 0 := ⟨by decide, fun j hj => absurd hj (Nat.not_lt_zero _), fun j _ _ => Nat.zero_le _⟩
theorem at_o {n i : Nat} (h : At n i) (hn : n < 3125) (ho : isO n) : i < 120 ∧ pm i = n ∧ At (n + 1) (i + 1) := by
  obtain ⟨h1, h2, h3⟩ := h
  obtain ⟨j, hj, e⟩ := o_5 n hn ho
  have hij : i ≤ j := Nat.not_lt.mp (fun z => by have := h2 j z; omega)
  have hi : i < 120 := by omega
  have e2 : pm i = n := by
    by_cases z : i = j
    · rw [z]; exact e
    · have a := o_8 (i := i) (j := j) (by omega) hj
      have b := h3 i (Nat.le_refl _) hi
      omega
  refine ⟨hi, e2, by omega, fun k hk => ?_, fun k hk hk2 => ?_⟩
  · by_cases z : k = i
    · rw [z]; omega
    · have := h2 k (by omega); omega
  · have := o_8 (i := i) (j := k) (by omega) hk2
    omega
theorem at_n {n i : Nat} (h : At n i) (ho : ¬ isO n) : At (n + 1) i := by
  obtain ⟨h1, h2, h3⟩ := h
  refine ⟨h1, fun j hj => by have := h2 j hj; omega, fun j hj hj2 => ?_⟩
  have a := h3 j hj hj2
  have b : pm j ≠ n := fun z => ho (z ▸ (o_6 j hj2).1)
  omega
theorem at_e {i : Nat} (h : At 3125 i) : i = 120 := by
  obtain ⟨h1, h2, h3⟩ := h
  by_cases z : i < 120
  · have := h3 i (Nat.le_refl _) z
    have := (o_6 i z).2.1
    omega
  · omega
