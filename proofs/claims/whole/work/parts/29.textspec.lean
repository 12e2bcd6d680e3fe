/-! ===== the text: what it tells ===== -/
def ltr (t : Nat → Int) (n : Nat) (a : Int) : Int := if 0 ≤ a ∧ a < n then t a.toNat else 32
def figB (t : Nat → Int) (n : Nat) (a : Int) : Bool := decide (48 ≤ ltr t n a ∧ ltr t n a ≤ 57)
def tokB (t : Nat → Int) (n : Nat) (a : Int) : Bool := !decide (ltr t n a = 32) && !(figB t n a && figB t n (a - 1))
def tlk (t : Nat → Int) (n : Nat) (a : Int) : Nat → Nat → Nat
  | 0, l => l
  | k + 1, l => if (figB t n a && figB t n (a + l)) = true then tlk t n a k (l + 1) else l
def tlen (t : Nat → Int) (n : Nat) (a : Int) : Nat := tlk t n a 59 1
def fgA (t : Nat → Int) (n : Nat) (a lo hi : Int) : Int := if tlen t n a ≠ 1 ∨ ltr t n a - 48 < lo ∨ hi < ltr t n a - 48 then -1 else ltr t n a - 48
def bta (t : Nat → Int) (n : Nat) (a : Int) : Nat → Nat → Int → Int
  | 0, _, b => b
  | k + 1, i, b => if ltr t n (a + i) - 48 < 0 ∨ 1 < ltr t n (a + i) - 48 then -1 else bta t n a k (i + 1) (b * 2 + (ltr t n (a + i) - 48))
def btA (t : Nat → Int) (n : Nat) (a : Int) (len : Nat) : Int := if len < 2 ∨ 5 < len then -1 else bta t n a len 0 0
/-- awaited, whether p is told, q is told, what is told -/
abbrev Sg : Type := Nat × Bool × Bool × Cfg
def mx1 (a : Int) : Int := if a < 1 then 1 else a
/-- a token that begins at a: what is then, none if it can't stand there -/
def stT (t : Nat → Int) (n : Nat) (a : Int) (s : Sg) : Option Sg :=
  match s.1 with
  | 0 => if ltr t n a = 114 then some (1, s.2.1, s.2.2.1, 0, s.2.2.2.2) else if ltr t n a = 99 then some (3, s.2.1, s.2.2.1, 1, s.2.2.2.2) else if ltr t n a = 98 then some (4, s.2.1, s.2.2.1, 2, s.2.2.2.2) else none
  | 1 => if fgA t n a 0 3 = -1 then none else some (2, s.2.1, s.2.2.1, s.2.2.2.1, fgA t n a 0 3, s.2.2.2.2.2)
  | 2 => if fgA t n a (mx1 s.2.2.2.2.1) 5 = -1 then none else some (7, s.2.1, s.2.2.1, s.2.2.2.1, s.2.2.2.2.1, fgA t n a (mx1 s.2.2.2.2.1) 5, s.2.2.2.2.2.2)
  | 3 => if fgA t n a 1 3 = -1 then none else some (7, s.2.1, s.2.2.1, s.2.2.2.1, fgA t n a 1 3, s.2.2.2.2.2)
  | 4 => if btA t n a (tlen t n a) = -1 then none else some (7, s.2.1, s.2.2.1, s.2.2.2.1, btA t n a (tlen t n a), (tlen t n a : Int), s.2.2.2.2.2.2)
  | 5 => if fgA t n a 1 3 = -1 then none else some (7, s.2.1, s.2.2.1, s.2.2.2.1, s.2.2.2.2.1, s.2.2.2.2.2.1, fgA t n a 1 3, s.2.2.2.2.2.2.2)
  | 6 => if fgA t n a 1 4 = -1 then none else some (7, s.2.1, s.2.2.1, s.2.2.2.1, s.2.2.2.2.1, s.2.2.2.2.2.1, s.2.2.2.2.2.2.1, fgA t n a 1 4)
  | 7 => if ltr t n a = 59 then some (8, s.2) else none
  | _ => if ltr t n a = 112 ∧ s.2.1 = false then some (5, true, s.2.2) else if ltr t n a = 113 ∧ s.2.2.1 = false then some (6, s.2.1, true, s.2.2.2) else none
section STT
variable (t : Nat → Int) (n : Nat) (a : Int) (p q : Bool) (so lo hi P Q : Int)
theorem stT_0 : stT t n a (0, p, q, so, lo, hi, P, Q) = if ltr t n a = 114 then some (1, p, q, 0, lo, hi, P, Q) else if ltr t n a = 99 then some (3, p, q, 1, lo, hi, P, Q) else if ltr t n a = 98 then some (4, p, q, 2, lo, hi, P, Q) else none := rfl
theorem stT_1 : stT t n a (1, p, q, so, lo, hi, P, Q) = if fgA t n a 0 3 = -1 then none else some (2, p, q, so, fgA t n a 0 3, hi, P, Q) := rfl
theorem stT_2 : stT t n a (2, p, q, so, lo, hi, P, Q) = if fgA t n a (mx1 lo) 5 = -1 then none else some (7, p, q, so, lo, fgA t n a (mx1 lo) 5, P, Q) := rfl
theorem stT_3 : stT t n a (3, p, q, so, lo, hi, P, Q) = if fgA t n a 1 3 = -1 then none else some (7, p, q, so, fgA t n a 1 3, hi, P, Q) := rfl
theorem stT_4 : stT t n a (4, p, q, so, lo, hi, P, Q) = if btA t n a (tlen t n a) = -1 then none else some (7, p, q, so, btA t n a (tlen t n a), (tlen t n a : Int), P, Q) := rfl
theorem stT_5 : stT t n a (5, p, q, so, lo, hi, P, Q) = if fgA t n a 1 3 = -1 then none else some (7, p, q, so, lo, hi, fgA t n a 1 3, Q) := rfl
theorem stT_6 : stT t n a (6, p, q, so, lo, hi, P, Q) = if fgA t n a 1 4 = -1 then none else some (7, p, q, so, lo, hi, P, fgA t n a 1 4) := rfl
theorem stT_7 : stT t n a (7, p, q, so, lo, hi, P, Q) = if ltr t n a = 59 then some (8, p, q, so, lo, hi, P, Q) else none := rfl
theorem stT_8 : stT t n a (8, p, q, so, lo, hi, P, Q) = if ltr t n a = 112 ∧ p = false then some (5, true, q, so, lo, hi, P, Q) else if ltr t n a = 113 ∧ q = false then some (6, p, true, so, lo, hi, P, Q) else none := rfl
end STT
/-- from place a on, k letters left: the fault's place, -1 if there is none; and what is told then -/
def crun (t : Nat → Int) (n : Nat) : Nat → Nat → Sg → Int × Cfg
  | 0, _, s => (if s.1 = 8 then -1 else (n : Int), s.2.2.2)
  | k + 1, a, s => if tokB t n a = true then (match stT t n a s with | none => ((a : Int), s.2.2.2) | some s' => crun t n k (a + 1) s') else crun t n k (a + 1) s
def Sg0 : Sg := (0, false, false, 0, 1, 3, 1, 2)
def parse (t : Nat → Int) (n : Nat) : Int × Cfg := crun t n n 0 Sg0
def GS (s : Sg) : Prop := s.1 ≤ 8 ∧ (1 ≤ s.2.2.2.2.2.2.1 ∧ s.2.2.2.2.2.2.1 ≤ 3 ∧ 1 ≤ s.2.2.2.2.2.2.2 ∧ s.2.2.2.2.2.2.2 ≤ 4) ∧
  (s.1 = 0 → s.2.2.2.2.2.1 = 3) ∧ (s.1 = 1 → s.2.2.2.1 = 0) ∧ (s.1 = 2 → s.2.2.2.1 = 0 ∧ 0 ≤ s.2.2.2.2.1 ∧ s.2.2.2.2.1 ≤ 3) ∧ (s.1 = 3 → s.2.2.2.1 = 1 ∧ s.2.2.2.2.2.1 = 3) ∧ (s.1 = 4 → s.2.2.2.1 = 2) ∧ (5 ≤ s.1 → VBan s.2.2.2.1 s.2.2.2.2.1 s.2.2.2.2.2.1)
theorem fgA_rng {t : Nat → Int} {n : Nat} {a lo hi : Int} (h : ¬ fgA t n a lo hi = -1) : lo ≤ fgA t n a lo hi ∧ fgA t n a lo hi ≤ hi := by
  unfold fgA at h ⊢
  split
  · rename_i h1
    rw [if_pos h1] at h
    exact absurd rfl h
  · omega
theorem bta_rng {t : Nat → Int} {n : Nat} {a : Int} : ∀ (k i : Nat) (b : Int), 0 ≤ b → bta t n a k i b = -1 ∨ (0 ≤ bta t n a k i b ∧ bta t n a k i b < (b + 1) * 2 ^ k)
  | 0, i, b, h => by right; show 0 ≤ b ∧ b < (b + 1) * 1; omega
  | k + 1, i, b, h => by
    unfold bta
    split
    · exact .inl rfl
    · rename_i h1
      have ih := bta_rng (t := t) (n := n) (a := a) k (i + 1) (b * 2 + (ltr t n (a + i) - 48)) (by omega)
      rcases ih with ih | ih
      · exact .inl ih
      · right
        refine ⟨ih.1, Int.lt_of_lt_of_le ih.2 ?_⟩
        rw [Int.pow_succ, Int.mul_comm (2 ^ k) 2, ← Int.mul_assoc]
        exact Int.mul_le_mul_of_nonneg_right (by omega) (Int.le_of_lt (pw_pos k))
theorem btA_rng {t : Nat → Int} {n : Nat} {a : Int} {len : Nat} (h : ¬ btA t n a len = -1) : 2 ≤ len ∧ len ≤ 5 ∧ 0 ≤ btA t n a len ∧ btA t n a len < 32 ∧ btA t n a len < 2 ^ len := by
  unfold btA at h ⊢
  by_cases h1 : len < 2 ∨ 5 < len
  · rw [if_pos h1] at h
    exact absurd rfl h
  · rw [if_neg h1] at h ⊢
    have h2 := bta_rng (t := t) (n := n) (a := a) len 0 0 (by decide)
    have h3 := pw_le (k := len) (n := 5) (by omega)
    rcases h2 with h2 | h2
    · exact absurd h2 h
    · have e : (2 : Int) ^ 5 = 32 := by decide
      have e2 : ((0 : Int) + 1) * 2 ^ len = 2 ^ len := by simp
      rw [e2] at h2
      exact ⟨by omega, by omega, h2.1, by omega, h2.2⟩
theorem stT_GS {t : Nat → Int} {n : Nat} {a : Int} {s s' : Sg} (hg : GS s) (h : stT t n a s = some s') : GS s' := by
  obtain ⟨aw, p, q, so, lo, hi, P, Q⟩ := s
  obtain ⟨h8, hpq, g0, g1, g2, g3, g4, g5⟩ := hg
  dsimp only at h8 hpq g0 g1 g2 g3 g4 g5
  rcases (show aw = 0 ∨ aw = 1 ∨ aw = 2 ∨ aw = 3 ∨ aw = 4 ∨ aw = 5 ∨ aw = 6 ∨ aw = 7 ∨ aw = 8 by omega) with rfl | rfl | rfl | rfl | rfl | rfl | rfl | rfl | rfl
  · have := g0 rfl
    rw [stT_0] at h
    split at h
    · cases h; unfold GS; dsimp only; simp; omega
    · split at h
      · cases h; unfold GS; dsimp only; simp; omega
      · split at h
        · cases h; unfold GS; dsimp only; simp; omega
        · cases h
  · have h1 := g1 rfl
    rw [stT_1] at h
    split at h
    · cases h
    · rename_i hf
      have := fgA_rng hf
      cases h; unfold GS; dsimp only; simp; omega
  · have h1 := g2 rfl
    rw [stT_2] at h
    split at h
    · cases h
    · rename_i hf
      have := fgA_rng hf
      have hm : mx1 lo = if lo < 1 then 1 else lo := rfl
      cases h; unfold GS; dsimp only
      refine ⟨by decide, hpq, by simp, by simp, by simp, by simp, by simp, fun _ => .inl ?_⟩
      split at hm <;> omega
  · have h1 := g3 rfl
    rw [stT_3] at h
    split at h
    · cases h
    · rename_i hf
      have := fgA_rng hf
      cases h; unfold GS; dsimp only
      refine ⟨by decide, hpq, by simp, by simp, by simp, by simp, by simp, fun _ => .inr (.inl ?_)⟩
      omega
  · have h1 := g4 rfl
    rw [stT_4] at h
    split at h
    · cases h
    · rename_i hf
      have := btA_rng hf
      cases h; unfold GS; dsimp only
      refine ⟨by decide, hpq, by simp, by simp, by simp, by simp, by simp, fun _ => .inr (.inr ⟨by omega, by omega, by omega, by omega, by omega, ?_⟩)⟩
      rw [Int.toNat_natCast]
      exact this.2.2.2.2
  · have h1 := g5 (by decide)
    rw [stT_5] at h
    split at h
    · cases h
    · rename_i hf
      have := fgA_rng hf
      cases h; unfold GS; dsimp only
      exact ⟨by decide, by omega, by simp, by simp, by simp, by simp, by simp, fun _ => h1⟩
  · have h1 := g5 (by decide)
    rw [stT_6] at h
    split at h
    · cases h
    · rename_i hf
      have := fgA_rng hf
      cases h; unfold GS; dsimp only
      exact ⟨by decide, by omega, by simp, by simp, by simp, by simp, by simp, fun _ => h1⟩
  · have h1 := g5 (by decide)
    rw [stT_7] at h
    split at h
    · cases h; unfold GS; dsimp only
      exact ⟨by decide, by omega, by simp, by simp, by simp, by simp, by simp, fun _ => h1⟩
    · cases h
  · have h1 := g5 (by decide)
    rw [stT_8] at h
    split at h
    · cases h; unfold GS; dsimp only
      exact ⟨by decide, by omega, by simp, by simp, by simp, by simp, by simp, fun _ => h1⟩
    · split at h
      · cases h; unfold GS; dsimp only
        exact ⟨by decide, by omega, by simp, by simp, by simp, by simp, by simp, fun _ => h1⟩
      · cases h
theorem crun_rng {t : Nat → Int} {n : Nat} : ∀ (k a : Nat) (s : Sg), a + k = n → GS s → ((crun t n k a s).1 = -1 ∧ Vld (crun t n k a s).2) ∨ (0 ≤ (crun t n k a s).1 ∧ (crun t n k a s).1 ≤ n)
  | 0, a, s, ha, hg => by
    unfold crun
    by_cases h : s.1 = 8
    · left
      refine ⟨by rw [if_pos h], ?_⟩
      obtain ⟨h8, hpq, g0, g1, g2, g3, g4, g5⟩ := hg
      exact ⟨g5 (by omega), hpq.1, hpq.2.1, hpq.2.2.1, hpq.2.2.2⟩
    · right
      rw [if_neg h]
      dsimp only
      omega
  | k + 1, a, s, ha, hg => by
    unfold crun
    split
    · cases hs : stT t n a s with
      | none => right; dsimp only; omega
      | some s' => exact crun_rng k (a + 1) s' (by omega) (stT_GS hg hs)
    · exact crun_rng k (a + 1) s (by omega) hg
theorem GS0 : GS Sg0 := by unfold GS Sg0; dsimp only; simp
theorem parse_rng (t : Nat → Int) (n : Nat) : ((parse t n).1 = -1 ∧ Vld (parse t n).2) ∨ (0 ≤ (parse t n).1 ∧ (parse t n).1 ≤ n) := crun_rng n 0 Sg0 (by omega) GS0
