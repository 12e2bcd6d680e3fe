/-! ===== calls that make no cell ===== -/
def retI (z : Int) (h : AH) : PT := fun r h' => r = some (aI z) ∧ h' = h
def retV (h : AH) : PT := fun r h' => r = none ∧ h' = h
theorem retI_mk {z z0 : Int} {h : AH} (e : z = z0) : retI z0 h (some (aI z)) h := ⟨by rw [e], rfl⟩
theorem retI_mk2 {z z0 : Int} {h h0 : AH} (e : z = z0) (e2 : h = h0) : retI z0 h0 (some (aI z)) h := ⟨by rw [e], e2⟩
def b2i (b : Bool) : Int := if b then 1 else 0
theorem b2i_01 (b : Bool) : b2i b = 0 ∨ b2i b = 1 := by cases b <;> simp [b2i]
theorem b2i_t : b2i true = 1 := rfl
theorem b2i_f : b2i false = 0 := rfl
theorem b2i_0 {b : Bool} : b2i b = 0 ↔ b = false := by cases b <;> simp [b2i]
theorem b2i_1 {b : Bool} : b2i b = 1 ↔ b = true := by cases b <;> simp [b2i]
theorem b2i_n0 {b : Bool} : ¬ b2i b = 0 ↔ b = true := by cases b <;> simp [b2i]
section WR
variable {g : GL} {M : MD} {kc ks pc q : Nat} {ls : List (Option AV)} {st : List AV} {h : AH} {P : PT}
theorem x_cp {M' : MD} {as : List AV} {P1 P2 : PT} (k : Cv g M' as h P1) (hp : ∀ r h', P1 r h' → P2 r h') : Cv g M' as h P2 := by
  intro p e ha hc hk s m args below hf happ hP hK
  obtain ⟨t, o, a1, a2, a3, ⟨⟨⟨r, h', c1, c2, c3, c4⟩, b3⟩, b4⟩⟩ := k p e ha hc hk s m args below hf happ hP hK
  exact ⟨t, o, a1, a2, a3, ⟨⟨⟨r, h', c1, c2, hp r h' c3, c4⟩, b3⟩, b4⟩⟩
theorem x_V {M' : MD} {idx n b ci N : Nat} {as rest : List AV} {P' : PT} (hd : decode M.2.1 pc = .ok (.invokevirtual idx, 3)) (hq : pc + 3 = q) (hm : CLV M idx M' n) (hC : Cv g M' (aR b :: as) h P') (hst0 : st = (aR b :: as).reverse ++ rest) (hn : as.length = n) (hc : h.1[b]? = some (ci + 3, N)) (h8 : ci < 8) (hcn : CNn ci = M'.1.cls) (hrest : (rest.map catA).sum ≤ 8) (hz : M'.2.2.2.2.cells = 0 ∧ M'.2.2.2.2.slots = 0) (hcells : kc ≤ M.2.2.2.2.cells ∧ ks ≤ M.2.2.2.2.slots)
    (kk : ∀ r h', P' r h' → Wv g M kc ks q ls (r.toList ++ rest) h' P) : Wv g M kc ks pc ls st h P := by
  refine x_callV hd hq hm hC hst0 hn hc h8 hcn hrest (by rw [hz.1, hz.2]; exact hcells) ?_
  rw [hz.1, hz.2]
  exact kk
theorem x_S {M' : MD} {idx n : Nat} {as rest : List AV} {P' : PT} (hd : decode M.2.1 pc = .ok (.invokestatic idx, 3)) (hq : pc + 3 = q) (hm : CLS M idx M' n) (hC : Cv g M' as h P') (hst0 : st = as.reverse ++ rest) (hn : as.length = n) (hrest : (rest.map catA).sum ≤ 8) (hz : M'.2.2.2.2.cells = 0 ∧ M'.2.2.2.2.slots = 0) (hcells : kc ≤ M.2.2.2.2.cells ∧ ks ≤ M.2.2.2.2.slots)
    (kk : ∀ r h', P' r h' → Wv g M kc ks q ls (r.toList ++ rest) h' P) : Wv g M kc ks pc ls st h P := by
  refine x_callS hd hq hm hC hst0 hn hrest (by rw [hz.1, hz.2]; exact hcells) ?_
  rw [hz.1, hz.2]
  exact kk
theorem x_VI {M' : MD} {idx n b ci N : Nat} {as rest : List AV} {z : Int} (hd : decode M.2.1 pc = .ok (.invokevirtual idx, 3)) (hq : pc + 3 = q) (hm : CLV M idx M' n) (hC : Cv g M' (aR b :: as) h (retI z h)) (hst0 : st = (aR b :: as).reverse ++ rest) (hn : as.length = n) (hc : h.1[b]? = some (ci + 3, N)) (h8 : ci < 8) (hcn : CNn ci = M'.1.cls) (hrest : (rest.map catA).sum ≤ 8) (hz : M'.2.2.2.2.cells = 0 ∧ M'.2.2.2.2.slots = 0) (hcells : kc ≤ M.2.2.2.2.cells ∧ ks ≤ M.2.2.2.2.slots)
    (kk : Wv g M kc ks q ls (aI z :: rest) h P) : Wv g M kc ks pc ls st h P :=
  x_V hd hq hm hC hst0 hn hc h8 hcn hrest hz hcells (fun r h' hp => by obtain ⟨rfl, rfl⟩ := hp; exact kk)
theorem x_SI {M' : MD} {idx n : Nat} {as rest : List AV} {z : Int} (hd : decode M.2.1 pc = .ok (.invokestatic idx, 3)) (hq : pc + 3 = q) (hm : CLS M idx M' n) (hC : Cv g M' as h (retI z h)) (hst0 : st = as.reverse ++ rest) (hn : as.length = n) (hrest : (rest.map catA).sum ≤ 8) (hz : M'.2.2.2.2.cells = 0 ∧ M'.2.2.2.2.slots = 0) (hcells : kc ≤ M.2.2.2.2.cells ∧ ks ≤ M.2.2.2.2.slots)
    (kk : Wv g M kc ks q ls (aI z :: rest) h P) : Wv g M kc ks pc ls st h P :=
  x_S hd hq hm hC hst0 hn hrest hz hcells (fun r h' hp => by obtain ⟨rfl, rfl⟩ := hp; exact kk)
/-- a loop that counts up -/
theorem x_up {S : Nat → Prop} (n : Nat) (hx : S n) (hs : ∀ i, i < n → S (i + 1) → S i) : ∀ i, i ≤ n → S i := by
  intro i hi
  obtain ⟨d, rfl⟩ : ∃ d, n = i + d := ⟨n - i, by omega⟩
  clear hi
  induction d generalizing i with
  | zero => exact hx
  | succ d ih => exact hs i (by omega) (ih (i + 1) (by rw [show i + 1 + d = i + (d + 1) by omega]; exact hx) (fun j hj => hs j (by omega)))
/-- a loop by a measure -/
theorem x_ms {σ : Type} {S : σ → Prop} (μ : σ → Nat) (hs : ∀ s, (∀ s', μ s' < μ s → S s') → S s) (s : σ) : S s :=
  (measure μ).wf.induction s hs
theorem inI_pw {s : Int} (h0 : 0 ≤ s) (h1 : s ≤ 20) : inI (1 * 2 ^ s.toNat) := by
  have : ∀ n : Nat, n ≤ 20 → inIb (1 * 2 ^ n) = true := by decide +kernel
  exact inI_b (this s.toNat (by omega))
theorem nn_dv {a s : Int} (h : 0 ≤ a) : 0 ≤ a / 2 ^ s.toNat := Int.ediv_nonneg h (Int.le_of_lt (Int.pow_pos (by decide)))
end WR
