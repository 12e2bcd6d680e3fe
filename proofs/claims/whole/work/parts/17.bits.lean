/-! ===== bits: rows and rules ===== -/
theorem and1 {a : Int} (h : 0 ≤ a) : ((a.toNat &&& (1 : Int).toNat : Nat) : Int) = a % 2 := by
  rw [show ((1 : Int).toNat) = 1 from rfl, Nat.and_one_is_mod]
  omega
theorem andM {a : Int} {k : Nat} (h : 0 ≤ a) : ((a.toNat &&& ((2 : Int) ^ k - 1).toNat : Nat) : Int) = a % 2 ^ k := by
  have e1 : ((2 : Int) ^ k - 1).toNat = 2 ^ k - 1 := by
    have h1 : (1 : Int) ≤ 2 ^ k := Int.pow_pos (by decide)
    have h2 : ((2 ^ k : Nat) : Int) = 2 ^ k := by simp
    have h3 : 1 ≤ 2 ^ k := Nat.one_le_two_pow
    omega
  rw [e1, Nat.and_two_pow_sub_one_eq_mod]
  have h2 : ((2 ^ k : Nat) : Int) = 2 ^ k := by simp
  rw [Int.natCast_emod, h2, Int.toNat_of_nonneg h]
theorem orP {a : Int} {k : Nat} (h : 0 ≤ a) (h2 : a < 2 ^ k) : ((a.toNat ||| ((2 : Int) ^ k).toNat : Nat) : Int) = a + 2 ^ k := by
  have h3 : ((2 ^ k : Nat) : Int) = 2 ^ k := by simp
  have e1 : ((2 : Int) ^ k).toNat = 2 ^ k := by omega
  have h4 : a.toNat < 2 ^ k := by omega
  rw [e1, Nat.or_comm]
  have := Nat.two_pow_add_eq_or_of_lt h4 1
  rw [Nat.mul_one] at this
  rw [← this]
  omega
section BT
variable {g : GL} {M : MD} {kc ks pc q : Nat} {ls : List (Option AV)} {st : List AV} {h : AH} {P : PT}
theorem x_and1 {a : Int} (hd : decode M.2.1 pc = .ok (.iand, 1)) (hq : pc + 1 = q) (h0 : 0 ≤ a) (kk : Wv g M kc ks q ls (aI (a % 2) :: st) h P) : Wv g M kc ks pc ls (aI 1 :: aI a :: st) h P := by
  refine x_and hd hq h0 (by decide) ?_
  rw [and1 h0]
  exact kk
theorem x_andM {a : Int} {k : Nat} (hd : decode M.2.1 pc = .ok (.iand, 1)) (hq : pc + 1 = q) (h0 : 0 ≤ a) (kk : Wv g M kc ks q ls (aI (a % 2 ^ k) :: st) h P) : Wv g M kc ks pc ls (aI (2 ^ k - 1) :: aI a :: st) h P := by
  refine x_and hd hq h0 (by have : (1 : Int) ≤ 2 ^ k := Int.pow_pos (by decide); omega) ?_
  rw [andM h0]
  exact kk
theorem x_pow {a : Int} (hd : decode M.2.1 pc = .ok (.ishl, 1)) (hq : pc + 1 = q) (h0 : 0 ≤ a) (h1 : a ≤ 20) (kk : Wv g M kc ks q ls (aI (2 ^ a.toNat) :: st) h P) : Wv g M kc ks pc ls (aI a :: aI 1 :: st) h P := by
  refine x_shl hd hq (by decide) h0 (by omega) (inI_pw h0 h1) ?_
  rw [Int.one_mul]
  exact kk
theorem x_orP {a : Int} {k : Nat} (hd : decode M.2.1 pc = .ok (.ior, 1)) (hq : pc + 1 = q) (h0 : 0 ≤ a) (h1 : a < 2 ^ k) (kk : Wv g M kc ks q ls (aI (a + 2 ^ k) :: st) h P) : Wv g M kc ks pc ls (aI (2 ^ k) :: aI a :: st) h P := by
  refine x_or hd hq h0 (Int.le_of_lt (Int.pow_pos (by decide))) ?_
  rw [orP h0 h1]
  exact kk
end BT
theorem pw_le {k n : Nat} (h : k ≤ n) : (2 : Int) ^ k ≤ 2 ^ n := by
  have : 2 ^ k ≤ 2 ^ n := Nat.pow_le_pow_right (by decide) h
  have h2 : ((2 ^ k : Nat) : Int) = 2 ^ k := by simp
  have h3 : ((2 ^ n : Nat) : Int) = 2 ^ n := by simp
  omega
theorem pw_pos (k : Nat) : (0 : Int) < 2 ^ k := Int.pow_pos (by decide)
/-- the number whose bits below n are f -/
def mk (f : Nat → Bool) : Nat → Int
  | 0 => 0
  | n + 1 => mk f n + (if f n then 2 ^ n else 0)
theorem mk_rng (f : Nat → Bool) : ∀ n, 0 ≤ mk f n ∧ mk f n < 2 ^ n
  | 0 => ⟨Int.le_refl _, by show (0 : Int) < 1; decide⟩
  | n + 1 => by
    have ih := mk_rng f n
    have e : (2 : Int) ^ (n + 1) = 2 ^ n + 2 ^ n := by rw [Int.pow_succ]; omega
    have hp := pw_pos n
    unfold mk
    rw [e]
    split <;> omega
theorem mk_bit (f : Nat → Bool) : ∀ n s, (mk f n / 2 ^ s) % 2 = if s < n ∧ f s = true then 1 else 0
  | 0, s => by simp [mk]
  | n + 1, s => by
    have ih := mk_bit f n s
    have hr := mk_rng f n
    have hp := pw_pos s
    unfold mk
    rcases Nat.lt_trichotomy s n with h | h | h
    · obtain ⟨d, rfl⟩ : ∃ d, n = s + 1 + d := ⟨n - s - 1, by omega⟩
      have e1 : (if f (s + 1 + d) then (2 : Int) ^ (s + 1 + d) else 0) = 2 ^ s * (2 * (if f (s + 1 + d) then 2 ^ d else 0)) := by
        split
        · rw [Int.pow_add, Int.pow_succ]; simp [Int.mul_assoc]
        · simp
      rw [e1, Int.add_mul_ediv_left _ _ (by omega)]
      have e2 : (mk f (s + 1 + d) / 2 ^ s + 2 * (if f (s + 1 + d) then 2 ^ d else 0)) % 2 = (mk f (s + 1 + d) / 2 ^ s) % 2 := by omega
      rw [e2, ih]
      by_cases hf : f s = true
      · rw [if_pos ⟨by omega, hf⟩, if_pos ⟨by omega, hf⟩]
      · rw [if_neg (fun z => hf z.2), if_neg (fun z => hf z.2)]
    · subst h
      by_cases hf : f s = true
      · rw [if_pos hf, if_pos ⟨by omega, hf⟩]
        have : (mk f s + 2 ^ s) / 2 ^ s = 1 := by
          rw [show mk f s + 2 ^ s = mk f s + 2 ^ s * 1 by omega, Int.add_mul_ediv_left _ _ (by omega), Int.ediv_eq_zero_of_lt hr.1 hr.2]
          rfl
        rw [this]; rfl
      · rw [if_neg hf, if_neg (fun z => hf z.2), Int.add_zero, Int.ediv_eq_zero_of_lt hr.1 hr.2]; rfl
    · have hle : (2 : Int) ^ (n + 1) ≤ 2 ^ s := pw_le (by omega)
      have e : (2 : Int) ^ (n + 1) = 2 ^ n + 2 ^ n := by rw [Int.pow_succ]; omega
      have hz : (mk f n + if f n = true then 2 ^ n else 0) / 2 ^ s = 0 := by
        have hp2 := pw_pos n
        apply Int.ediv_eq_zero_of_lt
        · split <;> omega
        · split <;> omega
      rw [hz, if_neg (by omega)]; rfl
theorem mk_cong {f g : Nat → Bool} : ∀ {n}, (∀ s, s < n → f s = g s) → mk f n = mk g n
  | 0, _ => rfl
  | n + 1, h => by
    unfold mk
    rw [mk_cong (fun s hs => h s (by omega)), h n (by omega)]
theorem mk_inj {f g : Nat → Bool} {n : Nat} (h : mk f n = mk g n) : ∀ s, s < n → f s = g s := by
  intro s hs
  have h1 := mk_bit f n s
  have h2 := mk_bit g n s
  rw [h] at h1
  rw [h1] at h2
  by_cases hf : f s = true <;> by_cases hg : g s = true <;> simp [hs, hf, hg] at h2 ⊢
theorem mk_no : ∀ n, mk (fun _ => false) n = 0
  | 0 => rfl
  | n + 1 => by unfold mk; simp [mk_no n]
theorem mk_0 {f : Nat → Bool} {n : Nat} : mk f n = 0 ↔ ∀ s, s < n → f s = false := by
  constructor
  · intro h s hs
    have h1 := mk_bit f n s
    rw [h] at h1
    by_cases hf : f s = true
    · rw [if_pos ⟨hs, hf⟩] at h1
      simp at h1
    · simpa using hf
  · intro h
    rw [mk_cong (g := fun _ => false) h, mk_no]
section GE
variable {g : GL} {M : MD} {kc ks pc q : Nat} {ls : List (Option AV)} {st : List AV} {sh : List (Nat × Nat)} {rf : Nat → Nat → Option Nat} {v : Nat → Nat → Int} {P : PT}
theorem x_getIe {idx ci k c : Nat} {z : Int} (hd : decode M.2.1 pc = .ok (.getfield idx, 3)) (hq : pc + 3 = q) (hf : FL M.1.cls idx ci k) (hc : sh[c]? = some (ci + 3, NFn ci)) (hi : isR (fty ci k) = false) (hv : v c k = z) (kk : Wv g M kc ks q ls (aI z :: st) (sh, rf, v) P) : Wv g M kc ks pc ls (aR c :: st) (sh, rf, v) P := x_getI hd hq hf hc hi (by rw [hv]; exact kk)
theorem x_ialde {c n : Nat} {i z : Int} (hd : decode M.2.1 pc = .ok (.iaload, 1)) (hq : pc + 1 = q) (hc : sh[c]? = some (0, n)) (h0 : 0 ≤ i) (h1 : i < n) (hv : v c i.toNat = z) (kk : Wv g M kc ks q ls (aI z :: st) (sh, rf, v) P) : Wv g M kc ks pc ls (aI i :: aR c :: st) (sh, rf, v) P := x_iald hd hq hc h0 h1 (by rw [hv]; exact kk)
theorem x_zalde {c n : Nat} {i z : Int} (hd : decode M.2.1 pc = .ok (.baload, 1)) (hq : pc + 1 = q) (hc : sh[c]? = some (1, n)) (h0 : 0 ≤ i) (h1 : i < n) (hv : v c i.toNat = z) (kk : Wv g M kc ks q ls (aI z :: st) (sh, rf, v) P) : Wv g M kc ks pc ls (aI i :: aR c :: st) (sh, rf, v) P := x_zald hd hq hc h0 h1 (by rw [hv]; exact kk)
theorem x_top {h : AH} {a b : Int} (e : a = b) (kk : Wv g M kc ks pc ls (aI b :: st) h P) : Wv g M kc ks pc ls (aI a :: st) h P := by rw [e]; exact kk
theorem x_heap {h h' : AH} (e : h = h') (kk : Wv g M kc ks pc ls st h' P) : Wv g M kc ks pc ls st h P := by rw [e]; exact kk
end GE
