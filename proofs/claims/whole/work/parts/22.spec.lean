/-! ===== what follows from a ban: arcs, good states, tags, window ===== -/
def LO (so lo hi w : Int) : Nat → Int → Int
  | 0, x => x
  | k + 1, x => if x = -9 then -9 else LO so lo hi w k (stp so lo hi x (w / 2 ^ k % 2))
theorem LO_9 (so lo hi w : Int) : ∀ k, LO so lo hi w k (-9) = -9
  | 0 => rfl
  | k + 1 => by unfold LO; rw [if_pos rfl]
theorem stW_rng (lo hi x : Int) (hh : 0 < hi) : ∀ n : Nat, (n : Int) ≤ hi → stW lo hi x n = -9 ∨ (0 ≤ stW lo hi x n ∧ stW lo hi x n < hi)
  | 0, h => by
    unfold stW
    right; omega
  | n + 1, h => by
    unfold stW
    split
    · split
      · exact .inl rfl
      · right; omega
    · exact stW_rng lo hi x hh n (by omega)
theorem stp_rng {so lo hi s b : Int} (hv : VBan so lo hi) (h0 : 0 ≤ s) (h1 : s < nst so lo hi) : stp so lo hi s b = -9 ∨ (0 ≤ stp so lo hi s b ∧ stp so lo hi s b < nst so lo hi) := by
  unfold stp
  unfold nst at h1 ⊢
  rcases hv with hv | hv | hv
  · rw [if_pos hv.1] at h1 ⊢
    rw [if_pos hv.1]
    unfold stR
    (repeat' split) <;> omega
  · rw [if_neg (by omega), if_pos hv.1] at h1 ⊢
    rw [if_neg (by omega), if_pos hv.1]
    unfold stC
    (repeat' split) <;> omega
  · rw [if_neg (by omega), if_neg (by omega)] at h1 ⊢
    rw [if_neg (by omega), if_neg (by omega)]
    exact stW_rng _ _ _ (by omega) _ (by omega)
theorem LO_rng {so lo hi w : Int} (hv : VBan so lo hi) : ∀ (k : Nat) (x : Int), (x = -9 ∨ (0 ≤ x ∧ x < nst so lo hi)) → LO so lo hi w k x = -9 ∨ (0 ≤ LO so lo hi w k x ∧ LO so lo hi w k x < nst so lo hi)
  | 0, x, h => h
  | k + 1, x, h => by
    unfold LO
    split
    · exact .inl rfl
    · rename_i hx
      rcases h with h | h
      · exact absurd h hx
      · exact LO_rng hv k _ (stp_rng hv h.1 h.2)
/-- the arcs: where the arc of s over w leads, -9 if there is none -/
def eT (c : Cfg) (s w : Nat) : Int := if (s : Int) < nst c.1 c.2.1 c.2.2.1 ∧ (w : Int) < 2 ^ c.2.2.2.2.toNat then LO c.1 c.2.1 c.2.2.1 w c.2.2.2.2.toNat s else -9
def nS (c : Cfg) : Nat := (nst c.1 c.2.1 c.2.2.1).toNat
theorem nS_rng {c : Cfg} (h : Vld c) : 2 ≤ nS c ∧ nS c ≤ 7 ∧ ((nS c : Nat) : Int) = nst c.1 c.2.1 c.2.2.1 := by
  have := nst_rng h.1
  unfold nS
  omega
theorem eT_rng {c : Cfg} (h : Vld c) (s w : Nat) : eT c s w = -9 ∨ (0 ≤ eT c s w ∧ eT c s w < nS c) := by
  have hn := nS_rng h
  unfold eT
  split
  · rename_i h1
    rw [hn.2.2]
    exact LO_rng h.1 _ _ (.inr ⟨by omega, h1.1⟩)
  · exact .inl rfl
def cnt (f : Nat → Bool) : Nat → Int
  | 0 => 0
  | n + 1 => cnt f n + b2i (f n)
theorem b2i_rng (b : Bool) : 0 ≤ b2i b ∧ b2i b ≤ 1 := by cases b <;> simp [b2i]
theorem cnt_rng (f : Nat → Bool) : ∀ n, 0 ≤ cnt f n ∧ cnt f n ≤ n
  | 0 => by simp [cnt]
  | n + 1 => by
    have := cnt_rng f n
    have := b2i_rng (f n)
    unfold cnt
    omega
theorem cnt_cong {f g : Nat → Bool} : ∀ {n}, (∀ s, s < n → f s = g s) → cnt f n = cnt g n
  | 0, _ => rfl
  | n + 1, h => by
    unfold cnt
    rw [cnt_cong (fun s hs => h s (by omega)), h n (by omega)]
theorem cnt_le {f g : Nat → Bool} : ∀ {n}, (∀ s, s < n → f s = true → g s = true) → cnt f n ≤ cnt g n
  | 0, _ => Int.le_refl _
  | n + 1, h => by
    have h1 := cnt_le (n := n) (fun s hs => h s (by omega))
    have h2 := h n (by omega)
    unfold cnt
    cases hf : f n <;> cases hg : g n <;> simp_all [b2i] <;> omega
theorem cnt_lt {f g : Nat → Bool} : ∀ {n}, (∀ s, s < n → f s = true → g s = true) → (∃ s, s < n ∧ f s ≠ g s) → cnt f n < cnt g n
  | 0, _, h => by obtain ⟨s, hs, -⟩ := h; omega
  | n + 1, h, ⟨s, hs, hne⟩ => by
    have h2 := h n (by omega)
    have h3 := cnt_le (n := n) (fun s hs => h s (by omega))
    unfold cnt
    by_cases hn : f n = g n
    · have h1 := cnt_lt (n := n) (fun s hs => h s (by omega)) ⟨s, by
        rcases Nat.lt_or_ge s n with q | q
        · exact q
        · have : s = n := by omega
          subst this
          exact absurd hn hne, hne⟩
      rw [hn]; omega
    · cases hf : f n <;> cases hg : g n <;> simp_all [b2i] <;> omega
/-- the first of k places from i on, -9 if none -/
def fi (f : Nat → Bool) : Nat → Nat → Int
  | _, 0 => -9
  | i, k + 1 => if f i then (i : Int) else fi f (i + 1) k
theorem fi_cong {f g : Nat → Bool} : ∀ {i k}, (∀ s, i ≤ s → s < i + k → f s = g s) → fi f i k = fi g i k
  | i, 0, _ => rfl
  | i, k + 1, h => by
    unfold fi
    rw [h i (by omega) (by omega), fi_cong (fun s h1 h2 => h s (by omega) (by omega))]
/-- a state is in the set f of n -/
def inS (f : Nat → Bool) (n : Nat) (x : Int) : Bool := decide (0 ≤ x ∧ x < n) && f x.toNat
def hasB (bits s : Int) : Bool := decide (0 ≤ s ∧ s < 7 ∧ bits / 2 ^ s.toNat % 2 = 1)
theorem has_mk {f : Nat → Bool} {n : Nat} (hn : n ≤ 7) (s : Int) : hasB (mk f n) s = inS f n s := by
  unfold hasB inS
  by_cases h0 : 0 ≤ s
  · obtain ⟨k, rfl⟩ := Int.eq_ofNat_of_zero_le h0
    rw [Int.toNat_natCast, mk_bit]
    by_cases hk : k < n <;> by_cases hf : f k = true <;> simp [hk, hf] <;> omega
  · rw [decide_eq_false (by omega), decide_eq_false (by omega)]; rfl
/-- a round: those that have enough arcs to those left -/
def rnd (e : Nat → Nat → Int) (n : Nat) (need : Int) (f : Nat → Bool) : Nat → Bool := fun s => inS f n s && decide (need ≤ cnt (fun w => inS f n (e s w)) 16)
def gk (e : Nat → Nat → Int) (n : Nat) (need : Int) : Nat → Nat → Bool
  | 0 => fun _ => true
  | k + 1 => rnd e n need (gk e n need k)
theorem inS_cong {f g : Nat → Bool} {n : Nat} (h : ∀ s, s < n → f s = g s) (x : Int) : inS f n x = inS g n x := by
  unfold inS
  by_cases hx : 0 ≤ x ∧ x < n
  · rw [h x.toNat (by omega)]
  · rw [decide_eq_false hx]; rfl
theorem rnd_cong {e : Nat → Nat → Int} {n : Nat} {need : Int} {f g : Nat → Bool} (h : ∀ s, s < n → f s = g s) (s : Nat) : rnd e n need f s = rnd e n need g s := by
  unfold rnd
  rw [inS_cong h, cnt_cong (fun w _ => inS_cong h (e s w))]
theorem inS_nat {f : Nat → Bool} {n s : Nat} (h : s < n) : inS f n s = f s := by
  unfold inS
  rw [decide_eq_true (by omega), Int.toNat_natCast]; rfl
theorem gk_fix {e : Nat → Nat → Int} {n : Nat} {need : Int} {k : Nat} (h : ∀ s, s < n → gk e n need (k + 1) s = gk e n need k s) : ∀ j s, s < n → gk e n need (k + j) s = gk e n need k s
  | 0, _, _ => rfl
  | j + 1, s, hs => by
    have ih := gk_fix h j
    show rnd e n need (gk e n need (k + j)) s = _
    rw [rnd_cong ih]
    exact h s hs
theorem gk_sub {e : Nat → Nat → Int} {n : Nat} {need : Int} {k : Nat} : ∀ s, s < n → gk e n need (k + 1) s = true → gk e n need k s = true := by
  intro s hs h
  unfold gk rnd at h
  rw [inS_nat hs] at h
  simp at h
  exact h.1
theorem gk_dec {e : Nat → Nat → Int} {n : Nat} {need : Int} : ∀ k : Nat, (∃ j, j ≤ k ∧ ∀ s, s < n → gk e n need (j + 1) s = gk e n need j s) ∨ cnt (gk e n need (k + 1)) n ≤ (n : Int) - ((k + 1 : Nat) : Int) := by
  intro k
  induction k with
  | zero =>
    by_cases h : ∀ s, s < n → gk e n need 1 s = gk e n need 0 s
    · exact .inl ⟨0, Nat.le_refl _, h⟩
    · right
      have h1 : ∃ s, s < n ∧ gk e n need 1 s ≠ gk e n need 0 s := by simpa using h
      have h2 : cnt (gk e n need 1) n < cnt (gk e n need 0) n := cnt_lt (n := n) (fun s hs => gk_sub s hs) h1
      have h3 := (cnt_rng (gk e n need 0) n).2
      show cnt (gk e n need 1) n ≤ (n : Int) - ((1 : Nat) : Int)
      omega
  | succ k ih =>
    rcases ih with ⟨j, hj, h⟩ | ih
    · exact .inl ⟨j, by omega, h⟩
    · by_cases h : ∀ s, s < n → gk e n need (k + 2) s = gk e n need (k + 1) s
      · exact .inl ⟨k + 1, Nat.le_refl _, h⟩
      · right
        have h1 : ∃ s, s < n ∧ gk e n need (k + 2) s ≠ gk e n need (k + 1) s := by simpa using h
        have h2 : cnt (gk e n need (k + 2)) n < cnt (gk e n need (k + 1)) n := cnt_lt (n := n) (fun s hs => gk_sub s hs) h1
        show cnt (gk e n need (k + 2)) n ≤ _
        omega
/-- the good states: eight rounds reach them -/
def gd (e : Nat → Nat → Int) (n : Nat) (need : Int) : Nat → Bool := gk e n need 8
theorem gd_fix {e : Nat → Nat → Int} {n : Nat} {need : Int} (hn : n ≤ 7) {k : Nat} (h : ∀ s, s < n → gk e n need (k + 1) s = gk e n need k s) : ∀ s, s < n → gk e n need k s = gd e n need s := by
  intro s hs
  have hex : ∃ j, j ≤ 7 ∧ ∀ s, s < n → gk e n need (j + 1) s = gk e n need j s := by
    rcases gk_dec (e := e) (n := n) (need := need) 7 with h | h
    · exact h
    · have := (cnt_rng (gk e n need 8) n).1
      simp only [Nat.reduceAdd] at h
      omega
  obtain ⟨j, hj, h2⟩ := hex
  have e1 := gk_fix h2 (8 - j) s hs
  rw [show j + (8 - j) = 8 by omega] at e1
  rcases Nat.le_total j k with q | q
  · have e2 := gk_fix h2 (k - j) s hs
    rw [show j + (k - j) = k by omega] at e2
    unfold gd
    rw [e1, e2]
  · have e2 := gk_fix h (8 - k) s hs
    rw [show k + (8 - k) = 8 by omega] at e2
    unfold gd
    rw [e2]
theorem gk_ends {e : Nat → Nat → Int} {n : Nat} {need : Int} (hn : n ≤ 7) : ∃ j, j ≤ 7 ∧ ∀ s, s < n → gk e n need (j + 1) s = gk e n need j s := by
  rcases gk_dec (e := e) (n := n) (need := need) 7 with h | h
  · exact h
  · have := (cnt_rng (gk e n need 8) n).1
    simp only [Nat.reduceAdd] at h
    omega
theorem gd_rnd {e : Nat → Nat → Int} {n : Nat} {need : Int} (hn : n ≤ 7) {s : Nat} (hs : s < n) (h : gd e n need s = true) : need ≤ cnt (fun w => inS (gd e n need) n (e s w)) 16 := by
  obtain ⟨j, hj, h2⟩ := gk_ends (e := e) (n := n) (need := need) hn
  have e1 := gk_fix h2 (8 - j)
  have e2 := gk_fix h2 (9 - j)
  rw [show j + (8 - j) = 8 by omega] at e1
  rw [show j + (9 - j) = 9 by omega] at e2
  have h3 : gk e n need 9 s = true := by rw [e2 s hs, ← e1 s hs]; exact h
  unfold gk rnd at h3
  simp at h3
  exact h3.2
/-- tags: a w: whether the arc over w leads to a good one from a good one -/
def tcn (a : Nat → Bool) (need : Int) : Nat → Int
  | 0 => 0
  | w + 1 => tcn a need w + b2i (a w && decide (tcn a need w < need))
def tg (a : Nat → Bool) (need : Int) (w : Nat) : Int := if (a w && decide (tcn a need w < need)) = true then tcn a need w else -9
theorem tcn_rng (a : Nat → Bool) (need : Int) (hn : 0 ≤ need) : ∀ w, 0 ≤ tcn a need w ∧ tcn a need w ≤ w ∧ tcn a need w ≤ need
  | 0 => by simp [tcn]; exact hn
  | w + 1 => by
    have h1 := tcn_rng a need hn w
    have h2 := b2i_rng (a w && decide (tcn a need w < need))
    unfold tcn
    by_cases h : tcn a need w < need
    · omega
    · have : (a w && decide (tcn a need w < need)) = false := by simp [h]
      rw [this]; simp [b2i]; omega
