/-! what the writes make of the club -/
theorem St.fdk {Λ : hc_L} {I I' : hc_I} {L : hc_J} {R R' : hc_R} {s : Nat} {A : AS} (h : St Λ I L R s A) (hI : ∀ z, ¬ (s ≤ z ∧ z < s + 18) → I' z = I z) {i : Nat} (hR : R' (s + 8) i = R (s + 8) i) (hi : i < aF A) : ∃ r, R' (s + 8) i = some r ∧ FdAt Λ I' r (aFd A i) := by
  obtain ⟨r, hr, hf⟩ := h.fd hi
  exact ⟨r, hR.trans hr, hf.kp (hI r (h.l.nf (Or.inl hf.2.1)))⟩
theorem St.sdk {Λ : hc_L} {I I' : hc_I} {L : hc_J} {R R' : hc_R} {s : Nat} {A : AS} (h : St Λ I L R s A) (hI : ∀ z, ¬ (s ≤ z ∧ z < s + 18) → I' z = I z) {i : Nat} (hR : R' (s + 9) i = R (s + 9) i) (hi : i < aS A) : ∃ r, R' (s + 9) i = some r ∧ SdAt Λ I' r (aSd A i) := by
  obtain ⟨r, hr, hf⟩ := h.sd hi
  exact ⟨r, hR.trans hr, hf.kp (hI r (h.l.nf (Or.inr hf.2.1)))⟩
/-- a rule set -/
def aSRu (A : AS) (j : Nat) (v : Int64) : AS := (aM A, aF A, aS A, aY A, lpUp (aRu A) j v, aHz A, aSo A, aNm A, aTh A, aLv A, aYs A, aFd A, aSd A, aEt A, aEr A)
theorem St.sRu {Λ : hc_L} {I : hc_I} {L L' : hc_J} {R : hc_R} {s : Nat} {A : AS} (h : St Λ I L R s A) {j : Nat} {v : Int64} (h1 : ∀ z, z ≠ s + 1 → L' z = L z) (h2 : ∀ k, L' (s + 1) k = if k = j then v else L (s + 1) k) : St Λ I L' R s (aSRu A j v) := by
  refine ⟨h.l, h.w, h.2.2.1, fun k hk => ?_, fun c hc => h.hz hc, fun c hc => h.so hc, fun m hm => ?_, fun i hi => h.fd hi, fun i hi => h.sd hi, h.e.1, h.e.2, fun m hm => h.ets hm, fun w m hw hm => ?_⟩
  · rw [h2, h.ru hk]; rfl
  · rw [h1 _ (by omega)]; exact ⟨h.nm hm, h.th hm, h.lv hm, h.ys hm⟩
  · rw [h1 _ (by omega)]; exact h.er hw hm
/-- a member that will leave -/
def aSLv (A : AS) (m : Nat) : AS := (aM A, aF A, aS A, aY A, aRu A, aHz A, aSo A, aNm A, aTh A, lpUp (aLv A) m true, aYs A, aFd A, aSd A, aEt A, aEr A)
theorem St.sLv {Λ : hc_L} {I I' : hc_I} {L : hc_J} {R : hc_R} {s : Nat} {A : AS} (h : St Λ I L R s A) {m : Nat} (hm : m < aM A) (h1 : ∀ z, z ≠ s + 6 → I' z = I z) (h2 : ∀ k, I' (s + 6) k = if k = m then 1 else I (s + 6) k) : St Λ I' L R s (aSLv A m) := by
  have e : ∀ z, ¬ (s ≤ z ∧ z < s + 18) → I' z = I z := fun z hz => h1 z (by omega)
  refine ⟨h.l, h.w, by rw [h1 _ (by omega)]; exact h.2.2.1, fun k hk => h.ru hk, fun c hc => by rw [h1 _ (by omega)]; exact h.hz hc, fun c hc => by rw [h1 _ (by omega)]; exact h.so hc, fun k hk => ?_, fun i hi => h.fdk e rfl hi, fun i hi => h.sdk e rfl hi, h.e.1, h.e.2, fun k hk => ⟨by rw [h1 _ (by omega)]; exact h.et hk, fun hq => ⟨by have h9 : aM A ≤ k := hq; rw [h2, if_neg (by omega)]; exact (h.rest hk hq).1, by rw [h1 _ (by omega)]; exact (h.rest hk hq).2.1, (h.rest hk hq).2.2⟩⟩, fun w m hw hm => h.er hw hm⟩
  refine ⟨h.nm hk, by rw [h1 _ (by omega)]; exact h.th hk, ?_, by rw [h1 _ (by omega)]; exact h.ys hk⟩
  rw [h2, h.lv hk]
  show _ = hc_b (if k = m then true else aLv A k)
  split <;> rfl
/-- hazards of a part of the map; softness of a crop -/
def aSHz (A : AS) (x y tx ty g : Nat) : AS := (aM A, aF A, aS A, aY A, aRu A, (fun c => if hzIn x y tx ty c = true then g else aHz A c), aSo A, aNm A, aTh A, aLv A, aYs A, aFd A, aSd A, aEt A, aEr A)
theorem St.sHz {Λ : hc_L} {I I' : hc_I} {L : hc_J} {R : hc_R} {s : Nat} {A : AS} (h : St Λ I L R s A) {x y tx ty g : Nat} (hg : 1 ≤ g ∧ g ≤ 9) (h1 : ∀ z, z ≠ s + 2 → I' z = I z) (h2 : ∀ c, c < 64 → I' (s + 2) c = if hzIn x y tx ty c = true then nI g else I (s + 2) c) : St Λ I' L R s (aSHz A x y tx ty g) := by
  have e : ∀ z, ¬ (s ≤ z ∧ z < s + 18) → I' z = I z := fun z hz => h1 z (by omega)
  obtain ⟨w1, w2, w3, w4, w5, w6⟩ := h.w
  refine ⟨h.l, ⟨w1, w2, w3, w4, fun c hc => ?_, w6⟩, by rw [h1 _ (by omega)]; exact h.2.2.1, fun k hk => h.ru hk, fun c hc => ?_, fun c hc => by rw [h1 _ (by omega)]; exact h.so hc, fun k hk => by rw [h1 _ (by omega), h1 _ (by omega), h1 _ (by omega)]; exact ⟨h.nm hk, h.th hk, h.lv hk, h.ys hk⟩, fun i hi => h.fdk e rfl hi, fun i hi => h.sdk e rfl hi, h.e.1, h.e.2, fun m hm => by rw [h1 _ (by omega), h1 _ (by omega), h1 _ (by omega)]; exact h.ets hm, fun w m hw hm => h.er hw hm⟩
  · show 1 ≤ (if _ then _ else _) ∧ (if _ then _ else _) ≤ 9
    split
    · exact hg
    · exact w5 c hc
  · rw [h2 c hc, h.hz hc]
    show _ = nI (if _ then _ else _)
    split <;> rfl
def aSSo (A : AS) (c v : Nat) : AS := (aM A, aF A, aS A, aY A, aRu A, aHz A, lpUp (aSo A) c v, aNm A, aTh A, aLv A, aYs A, aFd A, aSd A, aEt A, aEr A)
theorem St.sSo {Λ : hc_L} {I I' : hc_I} {L : hc_J} {R : hc_R} {s : Nat} {A : AS} (h : St Λ I L R s A) {c v : Nat} (hg : v ≤ 200) (h1 : ∀ z, z ≠ s + 3 → I' z = I z) (h2 : ∀ k, I' (s + 3) k = if k = c then nI v else I (s + 3) k) : St Λ I' L R s (aSSo A c v) := by
  have e : ∀ z, ¬ (s ≤ z ∧ z < s + 18) → I' z = I z := fun z hz => h1 z (by omega)
  obtain ⟨w1, w2, w3, w4, w5, w6, w7⟩ := h.w
  refine ⟨h.l, ⟨w1, w2, w3, w4, w5, fun k hk => ?_, w7⟩, by rw [h1 _ (by omega)]; exact h.2.2.1, fun k hk => h.ru hk, fun c hc => by rw [h1 _ (by omega)]; exact h.hz hc, fun k hk => ?_, fun k hk => by rw [h1 _ (by omega), h1 _ (by omega), h1 _ (by omega)]; exact ⟨h.nm hk, h.th hk, h.lv hk, h.ys hk⟩, fun i hi => h.fdk e rfl hi, fun i hi => h.sdk e rfl hi, h.e.1, h.e.2, fun m hm => by rw [h1 _ (by omega), h1 _ (by omega), h1 _ (by omega)]; exact h.ets hm, fun w m hw hm => h.er hw hm⟩
  · show (if _ then _ else _) ≤ 200
    split
    · exact hg
    · exact w6 k hk
  · rw [h2, h.so hk]
    show _ = nI (if _ then _ else _)
    split <;> rfl
/-- a storm more; a field more; a member more -/
def aAddS (A : AS) (g : Nat → Nat) : AS := (aM A, aF A, aS A + 1, aY A, aRu A, aHz A, aSo A, aNm A, aTh A, aLv A, aYs A, aFd A, lpUp (aSd A) (aS A) g, aEt A, aEr A)
theorem St.addS {Λ : hc_L} {I I' : hc_I} {L : hc_J} {R R' : hc_R} {s r : Nat} {A : AS} (h : St Λ I L R s A) {g : Nat → Nat} (hr : SdAt Λ I r g) (hg : g 0 ≤ g 2 ∧ g 2 < 8 ∧ g 1 ≤ g 3 ∧ g 3 < 8 ∧ 1 ≤ g 4 ∧ g 4 ≤ 100) (hn : aS A < 16) (h1 : ∀ z, z ≠ s → I' z = I z) (h2 : ∀ j, I' s j = if j = 13 then nI (aS A + 1) else I s j) (h3 : ∀ z, z ≠ s + 9 → R' z = R z) (h4 : ∀ j, R' (s + 9) j = if j = aS A then some r else R (s + 9) j) : St Λ I' L R' s (aAddS A g) := by
  have e : ∀ z, ¬ (s ≤ z ∧ z < s + 18) → I' z = I z := fun z hz => h1 z (by omega)
  obtain ⟨w1, w2, w3, w4, w5, w6, w7, w8, w9⟩ := h.w
  refine ⟨h.l, ⟨w1, w2, hn, w4, w5, w6, w7, w8, fun i hi => ?_⟩, ?_, fun k hk => h.ru hk, fun c hc => by rw [h1 _ (by omega)]; exact h.hz hc, fun c hc => by rw [h1 _ (by omega)]; exact h.so hc, fun k hk => by rw [h1 _ (by omega), h1 _ (by omega), h1 _ (by omega)]; exact ⟨h.nm hk, h.th hk, h.lv hk, h.ys hk⟩, fun i hi => h.fdk e (by rw [h3 _ (by omega)]) hi, fun i hi => ?_, fun i q hi hq => h.rf hi (by rw [← hq, h3 _ (by omega)]), fun i q hi hq => ?_, fun m hm => by rw [h1 _ (by omega), h1 _ (by omega), h1 _ (by omega)]; exact h.ets hm, fun w m hw hm => h.er hw hm⟩
  · by_cases c : i = aS A
    · show (if i = aS A then g else aSd A i) 0 ≤ (if i = aS A then g else aSd A i) 2 ∧ (if i = aS A then g else aSd A i) 2 < 8 ∧ (if i = aS A then g else aSd A i) 1 ≤ (if i = aS A then g else aSd A i) 3 ∧ (if i = aS A then g else aSd A i) 3 < 8 ∧ 1 ≤ (if i = aS A then g else aSd A i) 4 ∧ (if i = aS A then g else aSd A i) 4 ≤ 100
      rw [if_pos c]; exact hg
    · show (if i = aS A then g else aSd A i) 0 ≤ (if i = aS A then g else aSd A i) 2 ∧ (if i = aS A then g else aSd A i) 2 < 8 ∧ (if i = aS A then g else aSd A i) 1 ≤ (if i = aS A then g else aSd A i) 3 ∧ (if i = aS A then g else aSd A i) 3 < 8 ∧ 1 ≤ (if i = aS A then g else aSd A i) 4 ∧ (if i = aS A then g else aSd A i) 4 ≤ 100
      rw [if_neg c]; exact w9 i (by have h9 : i < aS A + 1 := hi; omega)
  · rw [h2, h2, h2, h2, if_neg (by decide), if_neg (by decide), if_pos rfl, if_neg (by decide)]
    exact ⟨h.m, h.fc, rfl, h.yr⟩
  · have h9 : i < aS A + 1 := hi
    by_cases c : i = aS A
    · refine ⟨r, by rw [h4, if_pos c], ?_⟩
      show SdAt Λ I' r (if i = aS A then g else aSd A i)
      rw [if_pos c]
      exact hr.kp (e r (h.l.nf (Or.inr hr.2.1)))
    · obtain ⟨q, hq, hf⟩ := h.sdk (I' := I') (R' := R) (i := i) e rfl (by omega)
      refine ⟨q, by rw [h4, if_neg c]; exact hq, ?_⟩
      show SdAt Λ I' q (if i = aS A then g else aSd A i)
      rw [if_neg c]
      exact hf
  · rw [h4] at hq
    by_cases c : i = aS A
    · rw [if_pos c] at hq; cases hq; exact ⟨hr.1, hr.2.1⟩
    · rw [if_neg c] at hq; exact h.rs hi hq
def aAddF (A : AS) (g : Nat → Nat) : AS := (aM A, aF A + 1, aS A, aY A, aRu A, aHz A, aSo A, aNm A, aTh A, aLv A, aYs A, lpUp (aFd A) (aF A) g, aSd A, aEt A, aEr A)
def fdOk (A : AS) (g : Nat → Nat) : Prop := g 0 < aM A ∧ g 1 < 8 ∧ g 2 < 8 ∧ g 3 < 4 ∧ (1 ≤ g 4 ∧ g 4 ≤ 99) ∧ (1 ≤ g 5 ∧ g 5 ≤ 999)
theorem St.addF {Λ : hc_L} {I I' : hc_I} {L : hc_J} {R R' : hc_R} {s r : Nat} {A : AS} (h : St Λ I L R s A) {g : Nat → Nat} (hr : FdAt Λ I r g) (hg : fdOk A g) (hn : aF A < 24) (h1 : ∀ z, z ≠ s → I' z = I z) (h2 : ∀ j, I' s j = if j = 12 then nI (aF A + 1) else I s j) (h3 : ∀ z, z ≠ s + 8 → R' z = R z) (h4 : ∀ j, R' (s + 8) j = if j = aF A then some r else R (s + 8) j) : St Λ I' L R' s (aAddF A g) := by
  have e : ∀ z, ¬ (s ≤ z ∧ z < s + 18) → I' z = I z := fun z hz => h1 z (by omega)
  obtain ⟨w1, w2, w3, w4, w5, w6, w7, w8, w9⟩ := h.w
  refine ⟨h.l, ⟨w1, hn, w3, w4, w5, w6, w7, fun i hi => ?_, w9⟩, ?_, fun k hk => h.ru hk, fun c hc => by rw [h1 _ (by omega)]; exact h.hz hc, fun c hc => by rw [h1 _ (by omega)]; exact h.so hc, fun k hk => by rw [h1 _ (by omega), h1 _ (by omega), h1 _ (by omega)]; exact ⟨h.nm hk, h.th hk, h.lv hk, h.ys hk⟩, fun i hi => ?_, fun i hi => h.sdk e (by rw [h3 _ (by omega)]) hi, fun i q hi hq => ?_, fun i q hi hq => h.rs hi (by rw [← hq, h3 _ (by omega)]), fun m hm => by rw [h1 _ (by omega), h1 _ (by omega), h1 _ (by omega)]; exact h.ets hm, fun w m hw hm => h.er hw hm⟩
  · by_cases c : i = aF A
    · show fdOk A (if i = aF A then g else aFd A i)
      rw [if_pos c]; exact hg
    · show fdOk A (if i = aF A then g else aFd A i)
      rw [if_neg c]; exact w8 i (by have h9 : i < aF A + 1 := hi; omega)
  · rw [h2, h2, h2, h2, if_neg (by decide), if_pos rfl, if_neg (by decide), if_neg (by decide)]
    exact ⟨h.m, rfl, h.sc, h.yr⟩
  · have h9 : i < aF A + 1 := hi
    by_cases c : i = aF A
    · refine ⟨r, by rw [h4, if_pos c], ?_⟩
      show FdAt Λ I' r (if i = aF A then g else aFd A i)
      rw [if_pos c]
      exact hr.kp (e r (h.l.nf (Or.inl hr.2.1)))
    · obtain ⟨q, hq, hf⟩ := h.fdk (I' := I') (R' := R) (i := i) e rfl (by omega)
      refine ⟨q, by rw [h4, if_neg c]; exact hq, ?_⟩
      show FdAt Λ I' q (if i = aF A then g else aFd A i)
      rw [if_neg c]
      exact hf
  · rw [h4] at hq
    by_cases c : i = aF A
    · rw [if_pos c] at hq; cases hq; exact ⟨hr.1, hr.2.1⟩
    · rw [if_neg c] at hq; exact h.rf hi hq
def aAddM (A : AS) (w : Int64) : AS := (aM A + 1, aF A, aS A, aY A, aRu A, aHz A, aSo A, lpUp (aNm A) (aM A) w, lpUp (aTh A) (aM A) true, lpUp (aLv A) (aM A) false, lpUp (aYs A) (aM A) 0, aFd A, aSd A, lpUp (aEt A) (aM A) false, aEr A)
theorem St.addM {Λ : hc_L} {I I' : hc_I} {L L' : hc_J} {R : hc_R} {s : Nat} {A : AS} (h : St Λ I L R s A) {w : Int64} (hn : aM A < 12) (h1 : ∀ z, z ≠ s → z ≠ s + 5 → I' z = I z) (hL : ∀ z, z ≠ s + 4 → L' z = L z) (h2 : ∀ j, I' s j = if j = 11 then nI (aM A + 1) else I s j) (h4 : ∀ j, L' (s + 4) j = if j = aM A then w else L (s + 4) j) (h5 : ∀ j, I' (s + 5) j = if j = aM A then 1 else I (s + 5) j) : St Λ I' L' R s (aAddM A w) := by
  have e : ∀ z, ¬ (s ≤ z ∧ z < s + 18) → I' z = I z := fun z hz => h1 z (by omega) (by omega)
  obtain ⟨w1, w2, w3, w4, w5, w6, w7, w8, w9⟩ := h.w
  obtain ⟨r1, r2, r3⟩ := h.rest hn (Nat.le_refl _)
  refine ⟨h.l, ⟨hn, w2, w3, w4, w5, w6, fun m hm => ?_, fun i hi => ?_, w9⟩, ?_, fun k hk => by rw [hL _ (by omega)]; exact h.ru hk, fun c hc => by rw [h1 _ (by omega) (by omega)]; exact h.hz hc, fun c hc => by rw [h1 _ (by omega) (by omega)]; exact h.so hc, fun k hk => ?_, fun i hi => h.fdk e rfl hi, fun i hi => h.sdk e rfl hi, h.e.1, h.e.2, fun m hm => ?_, fun w m hw hm => by rw [hL _ (by omega)]; exact h.er hw hm⟩
  · have h9 : m < aM A + 1 := hm
    show (if m = aM A then 0 else aYs A m) ≤ 600
    split
    · exact Nat.zero_le _
    · exact w7 m (by omega)
  · obtain ⟨q1, q2⟩ := w8 i hi
    exact ⟨Nat.lt_succ_of_lt q1, q2⟩
  · rw [h2, h2, h2, h2, if_pos rfl, if_neg (by decide), if_neg (by decide), if_neg (by decide)]
    exact ⟨rfl, h.fc, h.sc, h.yr⟩
  · have h9 : k < aM A + 1 := hk
    rw [h4, h5, h1 (s + 6) (by omega) (by omega), h1 (s + 7) (by omega) (by omega)]
    show _ = (if k = aM A then w else aNm A k) ∧ _ = hc_b (if k = aM A then true else aTh A k) ∧ _ = hc_b (if k = aM A then false else aLv A k) ∧ _ = nI (if k = aM A then 0 else aYs A k)
    by_cases c : k = aM A
    · rw [if_pos c, if_pos c, if_pos c, if_pos c, if_pos c, if_pos c, c, r1, r2]
      exact ⟨rfl, rfl, rfl, rfl⟩
    · rw [if_neg c, if_neg c, if_neg c, if_neg c, if_neg c, if_neg c]
      have hk' : k < aM A := by omega
      exact ⟨h.nm hk', h.th hk', h.lv hk', h.ys hk'⟩
  · rw [h1 (s + 10) (by omega) (by omega), h1 (s + 6) (by omega) (by omega), h1 (s + 7) (by omega) (by omega), h.et hm]
    show _ = hc_b (if m = aM A then false else aEt A m) ∧ (aM A + 1 ≤ m → _ ∧ _ ∧ (if m = aM A then false else aEt A m) = false)
    refine ⟨?_, fun hk => ?_⟩
    · by_cases c : m = aM A
      · rw [if_pos c, c, r3]
      · rw [if_neg c]
    · rw [if_neg (by omega)]
      exact h.rest hm (by omega)
