/-! THE CLUB, as numbers: what class and reference both hold. -/
abbrev AS : Type := Nat × Nat × Nat × Nat × (Nat → Int64) × (Nat → Nat) × (Nat → Nat) × (Nat → Int64) × (Nat → Bool) × (Nat → Bool) × (Nat → Nat) × (Nat → Nat → Nat) × (Nat → Nat → Nat) × (Nat → Bool) × (Nat → Nat → Int64)
abbrev aM (A : AS) : Nat := A.1
abbrev aF (A : AS) : Nat := A.2.1
abbrev aS (A : AS) : Nat := A.2.2.1
abbrev aY (A : AS) : Nat := A.2.2.2.1
abbrev aRu (A : AS) : Nat → Int64 := A.2.2.2.2.1
abbrev aHz (A : AS) : Nat → Nat := A.2.2.2.2.2.1
abbrev aSo (A : AS) : Nat → Nat := A.2.2.2.2.2.2.1
abbrev aNm (A : AS) : Nat → Int64 := A.2.2.2.2.2.2.2.1
abbrev aTh (A : AS) : Nat → Bool := A.2.2.2.2.2.2.2.2.1
abbrev aLv (A : AS) : Nat → Bool := A.2.2.2.2.2.2.2.2.2.1
abbrev aYs (A : AS) : Nat → Nat := A.2.2.2.2.2.2.2.2.2.2.1
abbrev aFd (A : AS) : Nat → Nat → Nat := A.2.2.2.2.2.2.2.2.2.2.2.1
abbrev aSd (A : AS) : Nat → Nat → Nat := A.2.2.2.2.2.2.2.2.2.2.2.2.1
abbrev aEt (A : AS) : Nat → Bool := A.2.2.2.2.2.2.2.2.2.2.2.2.2.1
abbrev aEr (A : AS) : Nat → Nat → Int64 := A.2.2.2.2.2.2.2.2.2.2.2.2.2.2
/-- the bounds of THE CLUB -/
def wf (A : AS) : Prop := aM A ≤ 12 ∧ aF A ≤ 24 ∧ aS A ≤ 16 ∧ aY A ≤ 600 ∧ (∀ c, c < 64 → 1 ≤ aHz A c ∧ aHz A c ≤ 9) ∧ (∀ c, c < 4 → aSo A c ≤ 200) ∧ (∀ m, m < aM A → aYs A m ≤ 600) ∧
  (∀ i, i < aF A → aFd A i 0 < aM A ∧ aFd A i 1 < 8 ∧ aFd A i 2 < 8 ∧ aFd A i 3 < 4 ∧ (1 ≤ aFd A i 4 ∧ aFd A i 4 ≤ 99) ∧ (1 ≤ aFd A i 5 ∧ aFd A i 5 ≤ 999)) ∧
  (∀ i, i < aS A → aSd A i 0 ≤ aSd A i 2 ∧ aSd A i 2 < 8 ∧ aSd A i 1 ≤ aSd A i 3 ∧ aSd A i 3 < 8 ∧ 1 ≤ aSd A i 4 ∧ aSd A i 4 ≤ 100)
theorem wf.m {A : AS} (h : wf A) : aM A ≤ 12 := h.1
theorem wf.f {A : AS} (h : wf A) : aF A ≤ 24 := h.2.1
theorem wf.s {A : AS} (h : wf A) : aS A ≤ 16 := h.2.2.1
/-- is there -/
def aIs (A : AS) (k : Nat) : Bool := decide (k < aM A) && aTh A k
def aKnX (A : AS) (x : Int32) : Bool := decide (0 ≤ x) && decide (x.toNatClampNeg < aM A)
def aIsX (A : AS) (x : Int32) : Bool := decide (0 ≤ x) && aIs A x.toNatClampNeg
def aFkX (A : AS) (x : Int32) : Bool := decide (0 ≤ x) && decide (x.toNatClampNeg < aF A)
/-- the field stands: there is such one, and its member is there -/
def aSt (A : AS) (i : Nat) : Bool := decide (i < aF A) && aIs A (aFd A i 0)
def aStX (A : AS) (x : Int32) : Bool := decide (0 ≤ x) && aSt A x.toNatClampNeg
def aSfX (A : AS) (x y : Int32) : Bool := aStX A x && decide (nI (aFd A x.toNatClampNeg 0) = y)
def sumJ (f : Nat → Int64) : Nat → Int64
  | 0 => 0
  | n + 1 => sumJ f n + f n
def sumI (f : Nat → Int32) : Nat → Int32
  | 0 => 0
  | n + 1 => sumI f n + f n
def aCo (A : AS) (i : Nat) : Int64 := (nI (aFd A i 4)).toInt64 * (nI (aFd A i 5)).toInt64
def aHzAt (A : AS) (x y : Nat) : Nat := aHz A (y * 8 + x)
def aPt (A : AS) (i : Nat) : Int64 := aCo A i * (nI (aHzAt A (aFd A i 1) (aFd A i 2))).toInt64
theorem nI_mul (a b : Nat) : nI a * nI b = nI (a * b) := (Int32.ofNat_mul a b).symm
theorem nI_nn {k : Nat} (h : k < 2 ^ 31) : (0 : Int32) ≤ nI k := by
  have := (hc_le (a := 0) (b := k) (by omega) h).mpr (Nat.zero_le k)
  exact this
theorem hc_cl {k : Nat} (h : k < 2 ^ 31) : (nI k).toNatClampNeg = k := nI_clamp h
theorem hc_clt {x : Int32} {M : Nat} (h : 0 ≤ x) (hM : M < 2 ^ 31) : nI M ≤ x ↔ ¬ x.toNatClampNeg < M := by
  obtain ⟨n, hn, rfl⟩ := hc_nn h
  rw [hc_le hM hn, hc_cl hn]
  omega
theorem hc_neg {x : Int32} (h : x < 0) : ¬ 0 ≤ x := by
  rw [Int32.not_le]
  exact h
theorem hc_pos {x : Int32} (h : ¬ x < 0) : 0 ≤ x := Int32.not_lt.mp h
theorem aIsX_n {A : AS} {k : Nat} (h : k < 2 ^ 31) : aIsX A (nI k) = aIs A k := by
  unfold aIsX
  rw [hc_cl h, decide_eq_true (nI_nn h), Bool.true_and]
theorem aStX_n {A : AS} {k : Nat} (h : k < 2 ^ 31) : aStX A (nI k) = aSt A k := by
  unfold aStX
  rw [hc_cl h, decide_eq_true (nI_nn h), Bool.true_and]
theorem aFkX_n {A : AS} {k : Nat} (h : k < 2 ^ 31) : aFkX A (nI k) = decide (k < aF A) := by
  unfold aFkX
  rw [hc_cl h, decide_eq_true (nI_nn h), Bool.true_and]
theorem aSfX_n {A : AS} {k : Nat} {y : Int32} (h : k < 2 ^ 31) : aSfX A (nI k) y = (aSt A k && decide (nI (aFd A k 0) = y)) := by
  unfold aSfX
  rw [aStX_n h, hc_cl h]
/-! comparisons of longs -/
theorem lg0 (x y : Int64) : lg_cmp x y = 0 ↔ x = y := by
  unfold lg_cmp
  split
  · rename_i h
    exact ⟨fun q => absurd q (by decide), fun q => absurd h (by rw [q]; exact Int64.lt_irrefl)⟩
  · split
    · rename_i h; exact ⟨fun _ => h, fun _ => rfl⟩
    · rename_i h; exact ⟨fun q => absurd q (by decide), fun q => absurd q h⟩
theorem lgn (x y : Int64) : lg_cmp x y < 0 ↔ x < y := by
  unfold lg_cmp
  split
  · rename_i h
    exact ⟨fun q => absurd q (by decide), fun q => absurd (Int64.lt_trans q h) Int64.lt_irrefl⟩
  · rename_i h
    split
    · rename_i h2; exact ⟨fun q => absurd q (by decide), fun q => absurd q (by rw [h2]; exact Int64.lt_irrefl)⟩
    · rename_i h2; exact ⟨fun _ => by rcases Int64.lt_or_eq_of_le (Int64.not_lt.mp h) with q | q; exact q; exact absurd q h2, fun _ => by decide⟩
theorem lgp (x y : Int64) : 0 < lg_cmp x y ↔ y < x := by
  unfold lg_cmp
  split
  · rename_i h
    exact ⟨fun _ => h, fun _ => by decide⟩
  · rename_i h
    split
    · exact ⟨fun q => absurd q (by decide), fun q => absurd q h⟩
    · exact ⟨fun q => absurd q (by decide), fun q => absurd q h⟩
theorem lgl (x y : Int64) : lg_cmp x y ≤ 0 ↔ x ≤ y := by
  rw [← Int32.not_lt, lgp, Int64.not_lt]
theorem lgg (x y : Int64) : 0 ≤ lg_cmp x y ↔ y ≤ x := by
  rw [← Int32.not_lt, lgn, Int64.not_lt]
section LIF
variable {cx : hc_X} {ac : Nat × Nat} {pc : Nat} {ls : List (Nat × Value)} {st : List Value} {Λ : hc_L} {I : hc_I} {L : hc_J} {R : hc_R} {Q : hc_Q}
theorem LW_lif_eq {x y : Int64} {off : Int} {tgt : Nat} (hd : decode (xC cx) pc = .ok (.ifCond .eq off, 3)) (ht : (pc : Int) + off = (tgt : Int)) (kt : x = y → LW cx ac tgt ls st Λ I L R Q) (kf : ¬ (x = y) → LW cx ac (pc + 3) ls st Λ I L R Q) : LW cx ac pc ls (.int (lg_cmp x y) :: st) Λ I L R Q :=
  LW_if_eq hd ht (fun q => kt ((lg0 x y).mp q)) (fun q => kf (fun z => q ((lg0 x y).mpr z)))
theorem LW_lif_ne {x y : Int64} {off : Int} {tgt : Nat} (hd : decode (xC cx) pc = .ok (.ifCond .ne off, 3)) (ht : (pc : Int) + off = (tgt : Int)) (kt : ¬ x = y → LW cx ac tgt ls st Λ I L R Q) (kf : ¬ (¬ x = y) → LW cx ac (pc + 3) ls st Λ I L R Q) : LW cx ac pc ls (.int (lg_cmp x y) :: st) Λ I L R Q :=
  LW_if_ne hd ht (fun q => kt ((not_congr (lg0 x y)).mp q)) (fun q => kf (fun z => q ((not_congr (lg0 x y)).mpr z)))
theorem LW_lif_lt {x y : Int64} {off : Int} {tgt : Nat} (hd : decode (xC cx) pc = .ok (.ifCond .lt off, 3)) (ht : (pc : Int) + off = (tgt : Int)) (kt : x < y → LW cx ac tgt ls st Λ I L R Q) (kf : ¬ (x < y) → LW cx ac (pc + 3) ls st Λ I L R Q) : LW cx ac pc ls (.int (lg_cmp x y) :: st) Λ I L R Q :=
  LW_if_lt hd ht (fun q => kt ((lgn x y).mp q)) (fun q => kf (fun z => q ((lgn x y).mpr z)))
theorem LW_lif_ge {x y : Int64} {off : Int} {tgt : Nat} (hd : decode (xC cx) pc = .ok (.ifCond .ge off, 3)) (ht : (pc : Int) + off = (tgt : Int)) (kt : y ≤ x → LW cx ac tgt ls st Λ I L R Q) (kf : ¬ (y ≤ x) → LW cx ac (pc + 3) ls st Λ I L R Q) : LW cx ac pc ls (.int (lg_cmp x y) :: st) Λ I L R Q :=
  LW_if_ge hd ht (fun q => kt ((lgg x y).mp q)) (fun q => kf (fun z => q ((lgg x y).mpr z)))
theorem LW_lif_gt {x y : Int64} {off : Int} {tgt : Nat} (hd : decode (xC cx) pc = .ok (.ifCond .gt off, 3)) (ht : (pc : Int) + off = (tgt : Int)) (kt : y < x → LW cx ac tgt ls st Λ I L R Q) (kf : ¬ (y < x) → LW cx ac (pc + 3) ls st Λ I L R Q) : LW cx ac pc ls (.int (lg_cmp x y) :: st) Λ I L R Q :=
  LW_if_gt hd ht (fun q => kt ((lgp x y).mp q)) (fun q => kf (fun z => q ((lgp x y).mpr z)))
theorem LW_lif_le {x y : Int64} {off : Int} {tgt : Nat} (hd : decode (xC cx) pc = .ok (.ifCond .le off, 3)) (ht : (pc : Int) + off = (tgt : Int)) (kt : x ≤ y → LW cx ac tgt ls st Λ I L R Q) (kf : ¬ (x ≤ y) → LW cx ac (pc + 3) ls st Λ I L R Q) : LW cx ac pc ls (.int (lg_cmp x y) :: st) Λ I L R Q :=
  LW_if_le hd ht (fun q => kt ((lgl x y).mp q)) (fun q => kf (fun z => q ((lgl x y).mpr z)))
end LIF
def aSf (A : AS) (i k : Nat) : Bool := aSt A i && decide (aFd A i 0 = k)
def abSums (A : AS) (k : Nat) : Nat → Int64 := sumJ (fun i => if aSf A i k = true then aCo A i else 0)
def abPts (A : AS) (k : Nat) : Nat → Int64 := sumJ (fun i => if aSf A i k = true then aPt A i else 0)
def abAllS (A : AS) : Nat → Int64 := sumJ (fun i => if aSt A i = true then aCo A i else 0)
def abAllP (A : AS) : Nat → Int64 := sumJ (fun i => if aSt A i = true then aPt A i else 0)
def abNf (A : AS) (k : Nat) : Nat → Int32 := sumI (fun i => hc_b (aSf A i k))
def abFt (A : AS) : Nat → Int32 := sumI (fun i => hc_b (aSt A i))
def abMt (A : AS) : Nat → Int32 := sumI (fun m => hc_b (aTh A m))
/-- a storm of these numbers over the field's cell -/
def aOv (g f : Nat → Nat) : Bool := decide (g 0 ≤ f 1) && (decide (f 1 ≤ g 2) && (decide (g 1 ≤ f 2) && decide (f 2 ≤ g 3)))
def abFu (A : AS) (g : Nat → Nat) : Nat → Int32 := sumI (fun i => hc_b (aSt A i && aOv g (aFd A i)))
def abFind (p : Nat → Bool) : Nat → Nat → Int32
  | 0, _ => -1
  | d + 1, i => if p i = true then nI i else abFind p d (i + 1)
def abNamed (A : AS) (w : Int64) : Int32 := abFind (fun m => decide (aNm A m = w)) (aM A) 0
theorem hc_nle {a b : Nat} (ha : a < 2 ^ 31) (hb : b < 2 ^ 31) (h : b < a) : ¬ nI a ≤ nI b := fun q => absurd ((hc_le ha hb).mp q) (by omega)
theorem hc_lsc {cx : hc_X} {ac : Nat × Nat} {pc : Nat} {ls ls' : List (Nat × Value)} {st : List Value} {Λ : hc_L} {I : hc_I} {L : hc_J} {R : hc_R} {Q : hc_Q} (h : ls = ls') (k : LW cx ac pc ls' st Λ I L R Q) : LW cx ac pc ls st Λ I L R Q := h ▸ k
theorem hc_nlt {a b : Nat} (ha : a < 2 ^ 31) (hb : b < 2 ^ 31) (h : b ≤ a) : ¬ nI a < nI b := fun q => absurd ((hc_lt ha hb).mp q) (by omega)
/-- what a storm of these numbers takes of the field by itself; all storms together -/
def aHarm (A : AS) (str i : Nat) : Nat := str * aSo A (aFd A i 3) / 100
def aLostN (A : AS) (i : Nat) : Nat → Nat
  | 0 => 0
  | j + 1 => aLostN A i j + (if aOv (aSd A j) (aFd A i) = true then aHarm A (aSd A j 4) i else 0)
def aLost (A : AS) (i : Nat) : Nat := min 100 (aLostN A i (aS A))
theorem abFind_skip {p : Nat → Bool} : ∀ (d i : Nat), p i = false → abFind p (d + 1) i = abFind p d (i + 1) := fun d i h => by
  rw [abFind, if_neg (by rw [h]; decide)]
/-! the class's State at s -/
def StL (Λ : hc_L) (s : Nat) : Prop := s + 18 ≤ Λ.1 ∧ Λ.2.1 s = (106, 0) ∧ Λ.2.1 (s + 1) = (3, 7) ∧ Λ.2.1 (s + 2) = (2, 64) ∧ Λ.2.1 (s + 3) = (2, 4) ∧ Λ.2.1 (s + 4) = (3, 12) ∧ Λ.2.1 (s + 5) = (0, 12) ∧ Λ.2.1 (s + 6) = (0, 12) ∧ Λ.2.1 (s + 7) = (2, 12) ∧ Λ.2.1 (s + 8) = (4, 24) ∧ Λ.2.1 (s + 9) = (5, 16) ∧ Λ.2.1 (s + 10) = (0, 12) ∧ Λ.2.1 (s + 11) = (7, 6) ∧ (∀ i, i < 6 → Λ.2.1 (s + 12 + i) = (3, 12)) ∧
  (∀ j, j < 11 → Λ.2.2 s j = some (s + 1 + j)) ∧ (∀ i, i < 6 → Λ.2.2 (s + 11) i = some (s + 12 + i))
theorem StL.lt {Λ : hc_L} {s : Nat} (h : StL Λ s) (k : Nat) (hk : k < 18) : s + k < Λ.1 := Nat.lt_of_lt_of_le (by omega) h.1
theorem StL.lt0 {Λ : hc_L} {s : Nat} (h : StL Λ s) : s < Λ.1 := h.lt 0 (by omega)
theorem StL.f {Λ : hc_L} {s : Nat} (h : StL Λ s) (j : Nat) (hj : j < 11) : Λ.2.2 s j = some (s + (j + 1)) := by rw [h.2.2.2.2.2.2.2.2.2.2.2.2.2.2.1 j hj]; congr 1; omega
theorem StL.f2 {Λ : hc_L} {s : Nat} (h : StL Λ s) (i : Nat) (hi : i < 6) : Λ.2.2 (s + 11) i = some (s + 12 + i) := h.2.2.2.2.2.2.2.2.2.2.2.2.2.2.2 i hi
theorem StL.l12 {Λ : hc_L} {s : Nat} (h : StL Λ s) (i : Nat) (hi : i < 6) : Λ.2.1 (s + 12 + i) = (3, 12) := h.2.2.2.2.2.2.2.2.2.2.2.2.2.1 i hi
/-- a cell that is a Field with these numbers; a Storm -/
def FdAt (Λ : hc_L) (I : hc_I) (r : Nat) (f : Nat → Nat) : Prop := r < Λ.1 ∧ Λ.2.1 r = (102, 0) ∧ ∀ a, a < 6 → I r a = nI (f a)
def SdAt (Λ : hc_L) (I : hc_I) (r : Nat) (f : Nat → Nat) : Prop := r < Λ.1 ∧ Λ.2.1 r = (107, 0) ∧ ∀ a, a < 5 → I r a = nI (f a)
def St (Λ : hc_L) (I : hc_I) (L : hc_J) (R : hc_R) (s : Nat) (A : AS) : Prop :=
  StL Λ s ∧ wf A ∧ (I s 11 = nI (aM A) ∧ I s 12 = nI (aF A) ∧ I s 13 = nI (aS A) ∧ I s 14 = nI (aY A)) ∧
  (∀ j, j < 7 → L (s + 1) j = aRu A j) ∧ (∀ c, c < 64 → I (s + 2) c = nI (aHz A c)) ∧ (∀ c, c < 4 → I (s + 3) c = nI (aSo A c)) ∧
  (∀ m, m < aM A → L (s + 4) m = aNm A m ∧ I (s + 5) m = hc_b (aTh A m) ∧ I (s + 6) m = hc_b (aLv A m) ∧ I (s + 7) m = nI (aYs A m)) ∧
  (∀ i, i < aF A → ∃ r, R (s + 8) i = some r ∧ FdAt Λ I r (aFd A i)) ∧ (∀ i, i < aS A → ∃ r, R (s + 9) i = some r ∧ SdAt Λ I r (aSd A i)) ∧
  (∀ i r, i < 24 → R (s + 8) i = some r → r < Λ.1 ∧ Λ.2.1 r = (102, 0)) ∧ (∀ i r, i < 16 → R (s + 9) i = some r → r < Λ.1 ∧ Λ.2.1 r = (107, 0)) ∧
  (∀ m, m < 12 → I (s + 10) m = hc_b (aEt A m) ∧ (aM A ≤ m → I (s + 6) m = 0 ∧ I (s + 7) m = 0 ∧ aEt A m = false)) ∧ (∀ w m, w < 6 → m < 12 → L (s + 12 + w) m = aEr A w m)
section StA
variable {Λ : hc_L} {I : hc_I} {L : hc_J} {R : hc_R} {s : Nat} {A : AS}
theorem St.l (h : St Λ I L R s A) : StL Λ s := h.1
theorem St.w (h : St Λ I L R s A) : wf A := h.2.1
theorem St.m (h : St Λ I L R s A) : I s 11 = nI (aM A) := h.2.2.1.1
theorem St.fc (h : St Λ I L R s A) : I s 12 = nI (aF A) := h.2.2.1.2.1
theorem St.sc (h : St Λ I L R s A) : I s 13 = nI (aS A) := h.2.2.1.2.2.1
theorem St.yr (h : St Λ I L R s A) : I s 14 = nI (aY A) := h.2.2.1.2.2.2
theorem St.ru (h : St Λ I L R s A) {j : Nat} (hj : j < 7) : L (s + 1) j = aRu A j := h.2.2.2.1 j hj
theorem St.hz (h : St Λ I L R s A) {c : Nat} (hc : c < 64) : I (s + 2) c = nI (aHz A c) := h.2.2.2.2.1 c hc
theorem St.so (h : St Λ I L R s A) {c : Nat} (hc : c < 4) : I (s + 3) c = nI (aSo A c) := h.2.2.2.2.2.1 c hc
theorem St.nm (h : St Λ I L R s A) {m : Nat} (hm : m < aM A) : L (s + 4) m = aNm A m := (h.2.2.2.2.2.2.1 m hm).1
theorem St.th (h : St Λ I L R s A) {m : Nat} (hm : m < aM A) : I (s + 5) m = hc_b (aTh A m) := (h.2.2.2.2.2.2.1 m hm).2.1
theorem St.lv (h : St Λ I L R s A) {m : Nat} (hm : m < aM A) : I (s + 6) m = hc_b (aLv A m) := (h.2.2.2.2.2.2.1 m hm).2.2.1
theorem St.ys (h : St Λ I L R s A) {m : Nat} (hm : m < aM A) : I (s + 7) m = nI (aYs A m) := (h.2.2.2.2.2.2.1 m hm).2.2.2
theorem St.fd (h : St Λ I L R s A) {i : Nat} (hi : i < aF A) : ∃ r, R (s + 8) i = some r ∧ FdAt Λ I r (aFd A i) := h.2.2.2.2.2.2.2.1 i hi
theorem St.sd (h : St Λ I L R s A) {i : Nat} (hi : i < aS A) : ∃ r, R (s + 9) i = some r ∧ SdAt Λ I r (aSd A i) := h.2.2.2.2.2.2.2.2.1 i hi
theorem St.ets (h : St Λ I L R s A) {m : Nat} (hm : m < 12) : I (s + 10) m = hc_b (aEt A m) ∧ (aM A ≤ m → I (s + 6) m = 0 ∧ I (s + 7) m = 0 ∧ aEt A m = false) := h.2.2.2.2.2.2.2.2.2.2.2.1 m hm
theorem St.et (h : St Λ I L R s A) {m : Nat} (hm : m < 12) : I (s + 10) m = hc_b (aEt A m) := (h.ets hm).1
theorem St.rest (h : St Λ I L R s A) {m : Nat} (hm : m < 12) (hk : aM A ≤ m) : I (s + 6) m = 0 ∧ I (s + 7) m = 0 ∧ aEt A m = false := (h.ets hm).2 hk
theorem St.er (h : St Λ I L R s A) {w m : Nat} (hw : w < 6) (hm : m < 12) : L (s + 12 + w) m = aEr A w m := h.2.2.2.2.2.2.2.2.2.2.2.2 w m hw hm
end StA
