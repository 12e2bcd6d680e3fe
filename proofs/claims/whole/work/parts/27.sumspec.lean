/-! ===== rows, weights: what they are ===== -/
def tw (x : Nat → Int) : Nat → Int
  | 0 => 0
  | k + 1 => wr (tw x k + x k)
theorem tw_in (x : Nat → Int) : ∀ k, inI (tw x k)
  | 0 => ci_0
  | k + 1 => wr_in _
theorem tw_cong {x y : Nat → Int} : ∀ {k}, (∀ s, s < k → x s = y s) → tw x k = tw y k
  | 0, _ => rfl
  | k + 1, h => by
    unfold tw
    rw [tw_cong (fun s hs => h s (by omega)), h k (by omega)]
theorem tw_pad {x : Nat → Int} {n : Nat} (h : ∀ s, n ≤ s → x s = 0) : ∀ k, tw x (n + k) = tw x n
  | 0 => rfl
  | k + 1 => by
    show wr (tw x (n + k) + x (n + k)) = _
    rw [tw_pad h k, h _ (by omega), Int.add_zero, wr_id (tw_in x n)]
theorem tw_7 {x : Nat → Int} {n : Nat} (hn : n ≤ 7) (h : ∀ s, n ≤ s → x s = 0) : tw x 7 = tw x n := by
  have := tw_pad h (7 - n)
  rw [show n + (7 - n) = 7 by omega] at this
  exact this
def ts (x : Nat → Int) : Nat → Int
  | 0 => 0
  | k + 1 => ts x k + x k
theorem ts_rng {x : Nat → Int} (h : ∀ s, 0 ≤ x s ∧ x s ≤ 9) : ∀ k : Nat, 0 ≤ ts x k ∧ ts x k ≤ 9 * k
  | 0 => by simp [ts]
  | k + 1 => by
    have h1 := ts_rng h k
    have h2 := h k
    unfold ts
    omega
theorem tw_ts {x : Nat → Int} (h : ∀ s, 0 ≤ x s ∧ x s ≤ 9) : ∀ k : Nat, k ≤ 7 → tw x k = ts x k
  | 0, _ => rfl
  | k + 1, hk => by
    have h1 := ts_rng h k
    have h2 := h k
    show wr (tw x k + x k) = ts x k + x k
    rw [tw_ts h k (by omega), wr_id ⟨by omega, by omega⟩]
def upx (f : Nat → Int) (k : Nat) (z : Int) : Nat → Int := fun i => if i = k then z else f i
/-- rows one bit longer: by state and bit, j = 2 s and b -/
def lr (so lo hi : Int) (x : Nat → Int) : Nat → Nat → Int
  | 0 => fun _ => 0
  | j + 1 => if stp so lo hi ((j / 2 : Nat) : Int) ((j % 2 : Nat) : Int) = -9 then lr so lo hi x j else upx (lr so lo hi x j) (stp so lo hi ((j / 2 : Nat) : Int) ((j % 2 : Nat) : Int)).toNat (wr (lr so lo hi x j (stp so lo hi ((j / 2 : Nat) : Int) ((j % 2 : Nat) : Int)).toNat + x (j / 2)))
def stt (so lo : Int) : Int := if so = 1 then lo else 0
def RW (so lo hi : Int) : Nat → Nat → Int
  | 0 => fun s => if (s : Int) = stt so lo then 1 else 0
  | k + 1 => lr so lo hi (RW so lo hi k) (2 * (nst so lo hi).toNat)
def rowsN (so lo hi : Int) (n : Nat) : Int := tw (RW so lo hi n) (nst so lo hi).toNat
theorem stt_rng {so lo hi : Int} (h : VBan so lo hi) : 0 ≤ stt so lo ∧ stt so lo < nst so lo hi := by
  unfold stt nst
  rcases h with h | h | h
  · rw [if_neg (by omega), if_pos h.1]; omega
  · rw [if_pos h.1, if_neg (by omega), if_pos h.1]; omega
  · rw [if_neg (by omega), if_neg (by omega), if_neg (by omega)]; omega
theorem lr_out {so lo hi : Int} (hv : VBan so lo hi) {x : Nat → Int} : ∀ j, j ≤ 2 * (nst so lo hi).toNat → ∀ s : Nat, nst so lo hi ≤ s → lr so lo hi x j s = 0
  | 0, _, s, _ => rfl
  | j + 1, hj, s, hs => by
    have ih := lr_out hv (x := x) j (by omega) s hs
    have hr := stp_rng (s := ((j / 2 : Nat) : Int)) (b := ((j % 2 : Nat) : Int)) hv (by omega) (by omega)
    unfold lr
    split
    · exact ih
    · unfold upx
      rw [if_neg (by omega)]
      exact ih
theorem RW_out {so lo hi : Int} (hv : VBan so lo hi) : ∀ k (s : Nat), nst so lo hi ≤ s → RW so lo hi k s = 0
  | 0, s, hs => by
    have := stt_rng hv
    show (if (s : Int) = stt so lo then (1 : Int) else 0) = 0
    rw [if_neg (by omega)]
  | k + 1, s, hs => lr_out hv _ (Nat.le_refl _) s hs
theorem lr_in {so lo hi : Int} {x : Nat → Int} : ∀ j s, inI (lr so lo hi x j s)
  | 0, s => ci_0
  | j + 1, s => by
    unfold lr
    split
    · exact lr_in j s
    · unfold upx
      split
      · exact wr_in _
      · exact lr_in j s
/-! weights -/
def atx (x : Nat → Int) (y : Int) : Int := if 0 ≤ y ∧ y < 7 then x y.toNat else 0
def so16 (e : Nat → Nat → Int) (x : Nat → Int) (s : Nat) : Nat → Int
  | 0 => 0
  | w + 1 => so16 e x s w + atx x (e s w)
def lsn (e : Nat → Nat → Int) (p : Int) (x : Nat → Int) (s : Nat) : Int := if so16 e x s 16 / 2 ^ p.toNat < x s then so16 e x s 16 / 2 ^ p.toNat else x s
def wk (e : Nat → Nat → Int) (p : Int) (x0 : Nat → Int) : Nat → Nat → Int
  | 0 => x0
  | k + 1 => lsn e p (wk e p x0 k)
def x0l (l : Int) (n : Nat) : Nat → Int := fun s => if s < n then l else 0
def WT (e : Nat → Nat → Int) (p l : Int) (n : Nat) : Nat → Int := wk e p (x0l l n) 64
theorem atx_rng {x : Nat → Int} (h : ∀ s, 0 ≤ x s ∧ x s ≤ 9) (y : Int) : 0 ≤ atx x y ∧ atx x y ≤ 9 := by
  unfold atx
  split
  · exact h _
  · omega
theorem so16_rng {e : Nat → Nat → Int} {x : Nat → Int} (h : ∀ s, 0 ≤ x s ∧ x s ≤ 9) (s : Nat) : ∀ w : Nat, 0 ≤ so16 e x s w ∧ so16 e x s w ≤ 9 * w
  | 0 => by simp [so16]
  | w + 1 => by
    have h1 := so16_rng (e := e) h s w
    have h2 := atx_rng h (e s w)
    unfold so16
    omega
theorem lsn_rng {e : Nat → Nat → Int} {p : Int} {x : Nat → Int} (h : ∀ s, 0 ≤ x s ∧ x s ≤ 9) (s : Nat) : 0 ≤ lsn e p x s ∧ lsn e p x s ≤ x s := by
  have h1 := (so16_rng (e := e) h s 16).1
  have h2 : 0 ≤ so16 e x s 16 / 2 ^ p.toNat := nn_dv h1
  have h3 := h s
  unfold lsn
  split <;> omega
theorem wk_rng {e : Nat → Nat → Int} {p : Int} {x0 : Nat → Int} (h : ∀ s, 0 ≤ x0 s ∧ x0 s ≤ 9) : ∀ k s, 0 ≤ wk e p x0 k s ∧ wk e p x0 k s ≤ 9
  | 0, s => h s
  | k + 1, s => by
    have ih := wk_rng (e := e) (p := p) h k
    have h1 := lsn_rng (e := e) (p := p) ih s
    have h2 := ih s
    show 0 ≤ lsn e p (wk e p x0 k) s ∧ lsn e p (wk e p x0 k) s ≤ 9
    omega
theorem so16_cong {e : Nat → Nat → Int} {x y : Nat → Int} (h : ∀ s, s < 7 → x s = y s) (s : Nat) : ∀ w, so16 e x s w = so16 e y s w
  | 0 => rfl
  | w + 1 => by
    unfold so16
    rw [so16_cong h s w]
    congr 1
    unfold atx
    split
    · exact h _ (by omega)
    · rfl
theorem lsn_cong {e : Nat → Nat → Int} {p : Int} {x y : Nat → Int} (h : ∀ s, s < 7 → x s = y s) : ∀ s, s < 7 → lsn e p x s = lsn e p y s := by
  intro s hs
  unfold lsn
  rw [so16_cong h s 16, h s hs]
theorem wk_fix {e : Nat → Nat → Int} {p : Int} {x0 : Nat → Int} {k : Nat} (h : ∀ s, s < 7 → wk e p x0 (k + 1) s = wk e p x0 k s) : ∀ j s, s < 7 → wk e p x0 (k + j) s = wk e p x0 k s
  | 0, _, _ => rfl
  | j + 1, s, hs => by
    have ih := wk_fix h j
    show lsn e p (wk e p x0 (k + j)) s = _
    rw [lsn_cong ih s hs]
    exact h s hs
theorem ts_le {x y : Nat → Int} : ∀ {k}, (∀ s, s < k → x s ≤ y s) → ts x k ≤ ts y k
  | 0, _ => Int.le_refl _
  | k + 1, h => by
    have h1 := ts_le (k := k) (fun s hs => h s (by omega))
    have h2 := h k (by omega)
    unfold ts
    omega
theorem ts_lt {x y : Nat → Int} : ∀ {k}, (∀ s, s < k → x s ≤ y s) → (∃ s, s < k ∧ x s ≠ y s) → ts x k < ts y k
  | 0, _, h => by obtain ⟨s, hs, -⟩ := h; omega
  | k + 1, h, ⟨s, hs, hne⟩ => by
    have h2 := h k (by omega)
    have h3 := ts_le (k := k) (fun s hs => h s (by omega))
    unfold ts
    by_cases hk : s = k
    · subst hk; omega
    · have h1 := ts_lt (k := k) (fun s hs => h s (by omega)) ⟨s, by omega, hne⟩
      omega
theorem wk_dec {e : Nat → Nat → Int} {p : Int} {x0 : Nat → Int} (h : ∀ s, 0 ≤ x0 s ∧ x0 s ≤ 9) : ∀ k : Nat, (∃ j, j ≤ k ∧ ∀ s, s < 7 → wk e p x0 (j + 1) s = wk e p x0 j s) ∨ ts (wk e p x0 (k + 1)) 7 ≤ 63 - ((k + 1 : Nat) : Int) := by
  intro k
  have hle : ∀ k s, s < 7 → wk e p x0 (k + 1) s ≤ wk e p x0 k s := fun k s _ => (lsn_rng (wk_rng h k) s).2
  induction k with
  | zero =>
    by_cases hf : ∀ s, s < 7 → wk e p x0 1 s = wk e p x0 0 s
    · exact .inl ⟨0, Nat.le_refl _, hf⟩
    · right
      have h1 : ∃ s, s < 7 ∧ wk e p x0 1 s ≠ wk e p x0 0 s := by
        false_or_by_contra
        rename_i hn
        exact hf (fun s hs => Classical.byContradiction (fun hne => hn ⟨s, hs, hne⟩))
      have h2 : ts (wk e p x0 1) 7 < ts (wk e p x0 0) 7 := ts_lt (hle 0) h1
      have h3 := (ts_rng (wk_rng (e := e) (p := p) h 0) 7).2
      show ts (wk e p x0 1) 7 ≤ 63 - ((1 : Nat) : Int)
      omega
  | succ k ih =>
    rcases ih with ⟨j, hj, h1⟩ | ih
    · exact .inl ⟨j, by omega, h1⟩
    · by_cases hf : ∀ s, s < 7 → wk e p x0 (k + 2) s = wk e p x0 (k + 1) s
      · exact .inl ⟨k + 1, Nat.le_refl _, hf⟩
      · right
        have h1 : ∃ s, s < 7 ∧ wk e p x0 (k + 2) s ≠ wk e p x0 (k + 1) s := by
          false_or_by_contra
          rename_i hn
          exact hf (fun s hs => Classical.byContradiction (fun hne => hn ⟨s, hs, hne⟩))
        have h2 : ts (wk e p x0 (k + 2)) 7 < ts (wk e p x0 (k + 1)) 7 := ts_lt (hle (k + 1)) h1
        show ts (wk e p x0 (k + 2)) 7 ≤ _
        omega
theorem wk_ends {e : Nat → Nat → Int} {p : Int} {x0 : Nat → Int} (h : ∀ s, 0 ≤ x0 s ∧ x0 s ≤ 9) : ∃ j, j ≤ 63 ∧ ∀ s, s < 7 → wk e p x0 (j + 1) s = wk e p x0 j s := by
  rcases wk_dec (e := e) (p := p) h 63 with h1 | h1
  · exact h1
  · have := (ts_rng (wk_rng (e := e) (p := p) h 64) 7).1
    simp only [Nat.reduceAdd] at h1
    omega
theorem wk_64 {e : Nat → Nat → Int} {p : Int} {x0 : Nat → Int} (h : ∀ s, 0 ≤ x0 s ∧ x0 s ≤ 9) {k : Nat} (hk : (∀ s, s < 7 → wk e p x0 (k + 1) s = wk e p x0 k s) ∨ 63 ≤ k) : ∀ s, s < 7 → wk e p x0 k s = wk e p x0 64 s := by
  intro s hs
  obtain ⟨j, hj, h2⟩ := wk_ends (e := e) (p := p) h
  have e1 := wk_fix h2 (64 - j) s hs
  rw [show j + (64 - j) = 64 by omega] at e1
  rcases Nat.le_total j k with q | q
  · have e2 := wk_fix h2 (k - j) s hs
    rw [show j + (k - j) = k by omega] at e2
    rw [e1, e2]
  · rcases hk with hk | hk
    · have e2 := wk_fix hk (64 - k) s hs
      rw [show k + (64 - k) = 64 by omega] at e2
      rw [e2]
    · have : j = k := by omega
      subst this
      rw [e1]
theorem x0l_rng {l : Int} {n : Nat} (h0 : 0 ≤ l) (h1 : l ≤ 9) : ∀ s, 0 ≤ x0l l n s ∧ x0l l n s ≤ 9 := by
  intro s
  unfold x0l
  split <;> omega
