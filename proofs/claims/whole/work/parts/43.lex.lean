/-! THE TAPE as bytes, cut into tokens -/
def isL (c : Nat) : Bool := decide (97 ≤ c) && decide (c ≤ 122)
def isD (c : Nat) : Bool := decide (48 ≤ c) && decide (c ≤ 57)
def isSp (c : Nat) : Bool := decide (c = 32) || decide (c = 10)
/-- a byte as the class holds it -/
def sb (c : Nat) : Int32 := if c < 128 then nI c else nI c - 256
theorem sb_int : ∀ c, c < 256 → (sb c).toInt = if c < 128 then (c : Int) else (c : Int) - 256 := by decide +kernel
theorem sb_L : ∀ c, c < 256 → (decide ((97 : Int32) ≤ sb c) && decide (sb c ≤ 122)) = isL c := by decide +kernel
theorem sb_D : ∀ c, c < 256 → (decide ((48 : Int32) ≤ sb c) && decide (sb c ≤ 57)) = isD c := by decide +kernel
theorem sb_Ls : ∀ c, c < 256 → isL c = true → (sb c - 97 + 1).toInt64 = lN (c - 96) := by decide +kernel
theorem sb_Ds : ∀ c, c < 256 → isD c = true → (sb c - 48).toInt64 = lN (c - 48) := by decide +kernel
/-- the first place from p on, d at most on, that is not so -/
def scan (f : Nat → Bool) : Nat → Nat → Nat
  | 0, p => p
  | d + 1, p => if f p = true then scan f d (p + 1) else p
theorem scan_spec (f : Nat → Bool) : ∀ d p, p ≤ scan f d p ∧ scan f d p ≤ p + d ∧ (∀ q, p ≤ q → q < scan f d p → f q = true) ∧ (scan f d p < p + d → f (scan f d p) = false)
  | 0, p => ⟨Nat.le_refl _, Nat.le_refl _, fun q h1 h2 => absurd (Nat.lt_of_le_of_lt h1 h2) (Nat.lt_irrefl _), fun h => absurd h (Nat.lt_irrefl _)⟩
  | d + 1, p => by
    obtain ⟨a1, a2, a3, a4⟩ := scan_spec f d (p + 1)
    by_cases c : f p = true
    · have e : scan f (d + 1) p = scan f d (p + 1) := if_pos c
      rw [e]
      refine ⟨by omega, by omega, fun q h1 h2 => ?_, fun h => a4 (by omega)⟩
      by_cases e2 : q = p
      · rw [e2]; exact c
      · exact a3 q (by omega) h2
    · have e : scan f (d + 1) p = p := if_neg c
      rw [e]
      exact ⟨Nat.le_refl _, by omega, fun q h1 h2 => absurd (Nat.lt_of_le_of_lt h1 h2) (Nat.lt_irrefl _), fun _ => by cases h : f p; rfl; exact absurd h c⟩
theorem scan_u (f : Nat → Bool) {d p q : Nat} (h1 : p ≤ q) (h2 : q ≤ p + d) (h3 : ∀ r, p ≤ r → r < q → f r = true) (h4 : q < p + d → f q = false) : scan f d p = q := by
  obtain ⟨a1, a2, a3, a4⟩ := scan_spec f d p
  rcases Nat.lt_trichotomy (scan f d p) q with h | h | h
  · have := a4 (by omega)
    rw [h3 _ a1 h] at this
    cases this
  · exact h
  · have := h4 (by omega)
    rw [a3 _ h1 h] at this
    cases this
/-- behind spaces; where a token ends -/
def tkF (B : Nat → Nat) (n p : Nat) : Nat := scan (fun j => isSp (B j)) (n - p) p
def tkE (B : Nat → Nat) (n q : Nat) : Nat := if q < n then (if isL (B q) = true then scan (fun j => isL (B j)) (n - q) q else if isD (B q) = true then scan (fun j => isD (B j)) (n - q) q else q + 1) else q
def wdV (B : Nat → Nat) (q : Nat) : Nat → Nat
  | 0 => 0
  | k + 1 => wdV B q k * 32 + (B (q + k) - 96)
def nmV (B : Nat → Nat) (q : Nat) : Nat → Nat
  | 0 => 0
  | k + 1 => nmV B q k * 10 + (B (q + k) - 48)
/-- the words of the law, packed -/
def qw (i : Nat) : Nat := [441878706, 6591876, 270337604, 117232, 591493, 19515230917, 609879342, 3659954, 3120, 244780, 16441, 409203, 26379859, 13614, 13368, 294, 343342, 12748485].getD i 0
def wkF (w : Nat) : Nat → Nat → Nat
  | 0, _ => 2000
  | d + 1, i => if qw i = w then 1000 + i else wkF w d (i + 1)
/-- what kind of word: one of the law's own, a NAME -/
def wkd (w : Nat) : Nat := wkF w 18 0
def tkK (B : Nat → Nat) (n q : Nat) : Nat := if q < n then (if isL (B q) = true then (if 7 < tkE B n q - q then 2002 else wkd (wdV B q (tkE B n q - q))) else if isD (B q) = true then (if 8 < tkE B n q - q then 2002 else 2001) else B q) else 2003
def tkV (B : Nat → Nat) (n q : Nat) : Nat := if q < n then (if isL (B q) = true then wdV B q (tkE B n q - q) else if isD (B q) = true then nmV B q (tkE B n q - q) else 0) else 0
/-- where the i-th token begins -/
def tp (B : Nat → Nat) (n : Nat) : Nat → Nat
  | 0 => tkF B n 0
  | i + 1 => tkF B n (tkE B n (tp B n i))
def kd (B : Nat → Nat) (n i : Nat) : Nat := tkK B n (tp B n i)
def vl (B : Nat → Nat) (n i : Nat) : Nat := tkV B n (tp B n i)
def kEnc (k : Nat) : Int32 := if k < 256 then sb k else nI k
theorem wkF_r (w : Nat) : ∀ d i, wkF w d i = 2000 ∨ (1000 + i ≤ wkF w d i ∧ wkF w d i < 1000 + i + d ∧ qw (wkF w d i - 1000) = w)
  | 0, i => Or.inl rfl
  | d + 1, i => by
    by_cases c : qw i = w
    · have e : wkF w (d + 1) i = 1000 + i := if_pos c
      rw [e]
      exact Or.inr ⟨Nat.le_refl _, by omega, by rw [Nat.add_sub_cancel_left]; exact c⟩
    · have e : wkF w (d + 1) i = wkF w d (i + 1) := if_neg c
      rw [e]
      rcases wkF_r w d (i + 1) with h | ⟨h1, h2, h3⟩
      · exact Or.inl h
      · exact Or.inr ⟨by omega, by omega, h3⟩
theorem wkd_r (w : Nat) : wkd w = 2000 ∨ (1000 ≤ wkd w ∧ wkd w < 1018 ∧ qw (wkd w - 1000) = w) := by
  rcases wkF_r w 18 0 with h | ⟨h1, h2, h3⟩
  · exact Or.inl h
  · exact Or.inr ⟨h1, h2, h3⟩
theorem tkE_le {B : Nat → Nat} {n q : Nat} (h : q ≤ n) : q ≤ tkE B n q ∧ tkE B n q ≤ n := by
  unfold tkE
  have a := scan_spec (fun j => isL (B j)) (n - q) q
  have b := scan_spec (fun j => isD (B j)) (n - q) q
  split
  · split
    · omega
    · split <;> omega
  · omega
theorem tkE_lt {B : Nat → Nat} {n q : Nat} (h : q < n) : q < tkE B n q := by
  unfold tkE
  rw [if_pos h]
  have a := scan_spec (fun j => isL (B j)) (n - q) q
  have b := scan_spec (fun j => isD (B j)) (n - q) q
  split
  · rename_i hl
    rcases Nat.lt_or_ge q (scan (fun j => isL (B j)) (n - q) q) with z | z
    · exact z
    · have e : scan (fun j => isL (B j)) (n - q) q = q := by omega
      have := a.2.2.2 (by omega)
      rw [e] at this
      rw [hl] at this
      cases this
  · split
    · rename_i hl
      rcases Nat.lt_or_ge q (scan (fun j => isD (B j)) (n - q) q) with z | z
      · exact z
      · have e : scan (fun j => isD (B j)) (n - q) q = q := by omega
        have := b.2.2.2 (by omega)
        rw [e] at this
        rw [hl] at this
        cases this
    · omega
theorem tkF_le {B : Nat → Nat} {n p : Nat} (h : p ≤ n) : p ≤ tkF B n p ∧ tkF B n p ≤ n := by
  have a := scan_spec (fun j => isSp (B j)) (n - p) p
  unfold tkF
  omega
/-- a space is passed; anything else is where the token begins -/
theorem tkF_s {B : Nat → Nat} {n p : Nat} (h : p < n) (c : isSp (B p) = true) : tkF B n p = tkF B n (p + 1) := by
  unfold tkF
  rw [show n - p = (n - (p + 1)) + 1 by omega]
  exact if_pos c
theorem tkF_n {B : Nat → Nat} {n p : Nat} (h : p < n) (c : isSp (B p) = false) : tkF B n p = p := by
  unfold tkF
  rw [show n - p = (n - (p + 1)) + 1 by omega]
  exact if_neg (show ¬ isSp (B p) = true by rw [c]; decide)
theorem tkF_end {B : Nat → Nat} {n p : Nat} (h : n ≤ p) : tkF B n p = p := by
  unfold tkF
  rw [show n - p = 0 by omega]
  rfl
theorem tp_le (B : Nat → Nat) (n : Nat) : ∀ i, tp B n i ≤ n
  | 0 => (tkF_le (Nat.zero_le _)).2
  | i + 1 => (tkF_le (tkE_le (tp_le B n i)).2).2
theorem tp_lt {B : Nat → Nat} {n i : Nat} (h : tp B n i < n) : tp B n i < tp B n (i + 1) := Nat.lt_of_lt_of_le (tkE_lt h) (tkF_le (tkE_le (tp_le B n i)).2).1
/-- each token has a byte of its own -/
theorem tp_ge (B : Nat → Nat) (n : Nat) : ∀ i, tp B n i < n → i ≤ tp B n i
  | 0, _ => Nat.zero_le _
  | i + 1, h => by
    have h2 : tp B n i ≤ tp B n (i + 1) := Nat.le_trans (tkE_le (tp_le B n i)).1 (tkF_le (tkE_le (tp_le B n i)).2).1
    have := tp_ge B n i (by omega)
    have := tp_lt (B := B) (n := n) (i := i) (by omega)
    omega
theorem isL_not {c : Nat} (h : isL c = true) : isD c = false ∧ isSp c = false := by
  simp only [isL, isD, isSp, Bool.and_eq_true, decide_eq_true_eq, Bool.and_eq_false_iff, Bool.or_eq_false_iff, decide_eq_false_iff_not] at *
  omega
theorem isD_not {c : Nat} (h : isD c = true) : isL c = false ∧ isSp c = false := by
  simp only [isL, isD, isSp, Bool.and_eq_true, decide_eq_true_eq, Bool.and_eq_false_iff, Bool.or_eq_false_iff, decide_eq_false_iff_not] at *
  omega
theorem kd_r {B : Nat → Nat} {n : Nat} (hB : ∀ j, j < n → B j < 256) (i : Nat) : kd B n i < 256 ∨ (1000 ≤ kd B n i ∧ kd B n i < 1018) ∨ (2000 ≤ kd B n i ∧ kd B n i < 2004) := by
  unfold kd tkK
  split
  · rename_i h
    split
    · split
      · exact Or.inr (Or.inr (by omega))
      · rcases wkd_r (wdV B (tp B n i) (tkE B n (tp B n i) - tp B n i)) with h | h
        · exact Or.inr (Or.inr (by omega))
        · exact Or.inr (Or.inl (by omega))
    · split
      · split
        · exact Or.inr (Or.inr (by omega))
        · exact Or.inr (Or.inr (by omega))
      · exact Or.inl (hB _ h)
  · exact Or.inr (Or.inr (by omega))
theorem kd_end {B : Nat → Nat} {n : Nat} (hB : ∀ j, j < n → B j < 256) {i : Nat} : kd B n i = 2003 ↔ tp B n i = n := by
  constructor
  · intro h
    rcases Nat.lt_or_ge (tp B n i) n with z | z
    · exfalso
      unfold kd tkK at h
      rw [if_pos z] at h
      split at h
      · split at h
        · cases h
        · rcases wkd_r (wdV B (tp B n i) (tkE B n (tp B n i) - tp B n i)) with h3 | h3 <;> omega
      · split at h
        · split at h <;> cases h
        · have := hB _ z
          omega
    · exact Nat.le_antisymm (tp_le B n i) z
  · intro h
    unfold kd tkK
    rw [h, if_neg (Nat.lt_irrefl _)]
theorem kE_int {k : Nat} (h : k < 3000) : (kEnc k).toInt = if k < 128 then (k : Int) else if k < 256 then (k : Int) - 256 else k := by
  unfold kEnc
  by_cases c : k < 256
  · rw [if_pos c, sb_int k c]
    split <;> simp_all
  · rw [if_neg c, nI_toInt (by omega), if_neg (by omega), if_neg c]
theorem kE_eq {k c : Nat} (hk : k < 3000) (hc : c < 128 ∨ (256 ≤ c ∧ c < 3000)) : kEnc k = nI c ↔ k = c := by
  rw [← Int32.toInt_inj, kE_int hk, nI_toInt (by omega)]
  split
  · omega
  · split <;> omega
/-! values of words -/
theorem wdV_lt {B : Nat → Nat} {q : Nat} : ∀ k, (∀ j, j < k → isL (B (q + j)) = true) → wdV B q k < 32 ^ k
  | 0, _ => Nat.one_pos
  | k + 1, h => by
    have i1 := wdV_lt (B := B) (q := q) k (fun j hj => h j (by omega))
    have i2 := h k (by omega)
    simp only [isL, Bool.and_eq_true, decide_eq_true_eq] at i2
    show wdV B q k * 32 + (B (q + k) - 96) < 32 ^ (k + 1)
    rw [Nat.pow_succ]
    omega
theorem wdV_ge {B : Nat → Nat} {q : Nat} : ∀ k, (∀ j, j < k + 1 → isL (B (q + j)) = true) → 32 ^ k ≤ wdV B q (k + 1)
  | 0, h => by
    have i2 := h 0 (by omega)
    simp only [isL, Bool.and_eq_true, decide_eq_true_eq] at i2
    show 32 ^ 0 ≤ 0 * 32 + (B (q + 0) - 96)
    omega
  | k + 1, h => by
    have i1 := wdV_ge (B := B) (q := q) k (fun j hj => h j (by omega))
    show 32 ^ (k + 1) ≤ wdV B q (k + 1) * 32 + (B (q + (k + 1)) - 96)
    rw [Nat.pow_succ]
    omega
theorem nmV_lt {B : Nat → Nat} {q : Nat} : ∀ k, (∀ j, j < k → isD (B (q + j)) = true) → nmV B q k < 10 ^ k
  | 0, _ => Nat.one_pos
  | k + 1, h => by
    have i1 := nmV_lt (B := B) (q := q) k (fun j hj => h j (by omega))
    have i2 := h k (by omega)
    simp only [isD, Bool.and_eq_true, decide_eq_true_eq] at i2
    show nmV B q k * 10 + (B (q + k) - 48) < 10 ^ (k + 1)
    rw [Nat.pow_succ]
    omega
/-- a letter's word and a digit's number run on to the token's end -/
theorem tkE_L {B : Nat → Nat} {n q : Nat} (h : q < n) (c : isL (B q) = true) : tkE B n q = scan (fun j => isL (B j)) (n - q) q := by
  unfold tkE
  rw [if_pos h, if_pos c]
theorem tkE_D {B : Nat → Nat} {n q : Nat} (h : q < n) (c : isD (B q) = true) : tkE B n q = scan (fun j => isD (B j)) (n - q) q := by
  unfold tkE
  rw [if_pos h, if_neg (by rw [(isD_not c).1]; decide), if_pos c]
theorem tkE_S {B : Nat → Nat} {n q : Nat} (h : q < n) (c : isL (B q) = false) (d : isD (B q) = false) : tkE B n q = q + 1 := by
  unfold tkE
  rw [if_pos h, if_neg (by rw [c]; decide), if_neg (by rw [d]; decide)]
theorem lN_eqb {a b : Nat} (ha : a < 2 ^ 63) (hb : b < 2 ^ 63) : lN a = lN b ↔ a = b := by
  rw [← Int64.toInt_inj]
  unfold lN
  rw [Int64.toInt_ofNat_of_lt (by omega), Int64.toInt_ofNat_of_lt (by omega)]
  omega
