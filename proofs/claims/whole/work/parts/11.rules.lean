/-! ===== the rules, a row an instruction ===== -/
def inIb (z : Int) : Bool := decide (-2147483648 ≤ z) && decide (z < 2147483648)
theorem inI_b {z : Int} (h : inIb z = true) : inI z := by
  simp only [inIb, Bool.and_eq_true, decide_eq_true_eq] at h
  exact h
theorem okc {x : AV} {st : List AV} (hx : okV x) (h : ∀ a ∈ st, okV a) : ∀ a ∈ x :: st, okV a := List.forall_mem_cons.mpr ⟨hx, h⟩
theorem okh {x : AV} {st : List AV} (h : ∀ a ∈ x :: st, okV a) : okV x := (List.forall_mem_cons.mp h).1
theorem okt {x : AV} {st : List AV} (h : ∀ a ∈ x :: st, okV a) : ∀ a ∈ st, okV a := (List.forall_mem_cons.mp h).2
theorem cv_cat1 {B : Nat} {a : AV} (h : catA a = 1) : (cv B a).category = 1 := by
  obtain z | z | z := a
  · rfl
  · cases h
  · cases z <;> rfl
def notJ (o : Option AV) : Bool := match o with
  | some (.inr (.inl _)) => false
  | _ => true
theorem notJ_cat {o : Option AV} {b : AV} (h : o = some b) (hc : notJ o = true) : catA b = 1 := by
  subst h
  obtain z | z | z := b
  · rfl
  · cases hc
  · rfl
section RU
variable {g : GL} {M : MD} {kc ks pc q : Nat} {ls : List (Option AV)} {st : List AV} {h : AH} {P : PT}
theorem x_pc {q' : Nat} (e : q' = q) (k : Wv g M kc ks q' ls st h P) : Wv g M kc ks q ls st h P := e ▸ k
theorem x_st {ls' : List (Option AV)} {st' : List AV} {h' : AH} (k : Wv g M kc ks q ls' st' h' P) (e1 : ls' = ls) (e2 : st' = st) (e3 : h' = h) : Wv g M kc ks q ls st h P := by
  subst e1; subst e2; subst e3; exact k
theorem x_post {P' : PT} (k : Wv g M kc ks q ls st h P') (hp : ∀ r h', P' r h' → P r h') : Wv g M kc ks q ls st h P := by
  intro p e s m args below meth c H locs lsm C hW hS hL hst T hT X
  obtain ⟨t, a, o, b1, b2, ⟨⟨r, h', c1, c2, c3, c4⟩, b3⟩, b4⟩ := k p e s m args below meth c H locs lsm C hW hS hL hst T hT X
  exact ⟨t, a, o, b1, b2, ⟨⟨r, h', c1, c2, hp r h' c3, c4⟩, b3⟩, b4⟩

theorem x_ic {n : Int} (hd : decode M.2.1 pc = .ok (.iconst n, 1)) (hq : pc + 1 = q) (hr : inIb n = true) (k : Wv g M kc ks q ls (aI n :: st) h P) : Wv g M kc ks pc ls st h P := by
  intro p e s m args below meth c H locs lsm C hW hS hL hst
  subst hq
  exact lv_iconst C.1 C.2.1 hd rfl (k p e s m args below meth c H locs lsm C hW hS hL (okc (inI_b hr) hst))
theorem bi_v {n : Int} (h1 : -128 ≤ n) (h2 : n < 128) : (Int8.ofInt n).toInt32 = Int32.ofInt n := by
  rw [← Int32.toInt_inj, Int8.toInt_toInt32, Int8.toInt_ofInt, ti (a := n) ⟨by omega, by omega⟩]
  exact Int.bmod_eq_of_le (by simp; omega) (by simp; omega)
theorem si_v {n : Int} (h1 : -32768 ≤ n) (h2 : n < 32768) : (Int16.ofInt n).toInt32 = Int32.ofInt n := by
  rw [← Int32.toInt_inj, Int16.toInt_toInt32, Int16.toInt_ofInt, ti (a := n) ⟨by omega, by omega⟩]
  exact Int.bmod_eq_of_le (by simp; omega) (by simp; omega)
theorem x_bi {n : Int} (hd : decode M.2.1 pc = .ok (.bipush n, 2)) (hq : pc + 2 = q) (hr : (decide (-128 ≤ n) && decide (n < 128)) = true) (k : Wv g M kc ks q ls (aI n :: st) h P) : Wv g M kc ks pc ls st h P := by
  intro p e s m args below meth c H locs lsm C hW hS hL hst
  subst hq
  simp only [Bool.and_eq_true, decide_eq_true_eq] at hr
  exact lv_bipush C.1 C.2.1 hd (bi_v hr.1 hr.2) (k p e s m args below meth c H locs lsm C hW hS hL (okc (show inI n from ⟨by omega, by omega⟩) hst))
theorem x_si {n : Int} (hd : decode M.2.1 pc = .ok (.sipush n, 3)) (hq : pc + 3 = q) (hr : (decide (-32768 ≤ n) && decide (n < 32768)) = true) (k : Wv g M kc ks q ls (aI n :: st) h P) : Wv g M kc ks pc ls st h P := by
  intro p e s m args below meth c H locs lsm C hW hS hL hst
  subst hq
  simp only [Bool.and_eq_true, decide_eq_true_eq] at hr
  exact lv_sipush C.1 C.2.1 hd (si_v hr.1 hr.2) (k p e s m args below meth c H locs lsm C hW hS hL (okc (show inI n from ⟨by omega, by omega⟩) hst))
theorem x_lc {n : Fin 2} {z : Int} (hd : decode M.2.1 pc = .ok (.lconst n, 1)) (hq : pc + 1 = q) (hz : ((n : Nat) : Int) = z) (k : Wv g M kc ks q ls (aJ z :: st) h P) : Wv g M kc ks pc ls st h P := by
  intro p e s m args below meth c H locs lsm C hW hS hL hst
  subst hq
  have hn : (n : Nat) < 2 := n.2
  refine lv_lconst C.1 C.2.1 hd (v := Int64.ofInt z) (by rw [← hz]; exact (Int64.ofInt_eq_ofNat).symm) (k p e s m args below meth c H locs lsm C hW hS hL (okc (show inL z from ⟨by omega, by omega⟩) hst))
theorem x_null (hd : decode M.2.1 pc = .ok (.aconst_null, 1)) (hq : pc + 1 = q) (k : Wv g M kc ks q ls (aN :: st) h P) : Wv g M kc ks pc ls st h P := by
  intro p e s m args below meth c H locs lsm C hW hS hL hst
  subst hq
  exact lv_null C.1 C.2.1 hd (k p e s m args below meth c H locs lsm C hW hS hL (okc trivial hst))
theorem x_il_n {k : Fin 4} {z : Int} (hd : decode M.2.1 pc = .ok (.iload_n k, 1)) (hq : pc + 1 = q) (hl : ls[(k : Nat)]? = some (some (aI z))) (kk : Wv g M kc ks q ls (aI z :: st) h P) : Wv g M kc ks pc ls st h P := by
  intro p e s m args below meth c H locs lsm C hW hS hL hst
  subst hq
  exact lv_iload_n C.1 C.2.1 hd rfl (hL.2.2.2 _ _ hl).1 (kk p e s m args below meth c H locs lsm C hW hS hL (okc (hL.2.2.2 _ _ hl).2 hst))
theorem x_il {i : Nat} {z : Int} (hd : decode M.2.1 pc = .ok (.iload i, 2)) (hq : pc + 2 = q) (hl : ls[i]? = some (some (aI z))) (kk : Wv g M kc ks q ls (aI z :: st) h P) : Wv g M kc ks pc ls st h P := by
  intro p e s m args below meth c H locs lsm C hW hS hL hst
  subst hq
  exact lv_iload C.1 C.2.1 hd (hL.2.2.2 _ _ hl).1 (kk p e s m args below meth c H locs lsm C hW hS hL (okc (hL.2.2.2 _ _ hl).2 hst))
theorem x_al_n {k : Fin 4} {z : Nat} (hd : decode M.2.1 pc = .ok (.aload_n k, 1)) (hq : pc + 1 = q) (hl : ls[(k : Nat)]? = some (some (aR z))) (kk : Wv g M kc ks q ls (aR z :: st) h P) : Wv g M kc ks pc ls st h P := by
  intro p e s m args below meth c H locs lsm C hW hS hL hst
  subst hq
  exact lv_aload_n C.1 C.2.1 hd rfl (hL.2.2.2 _ _ hl).1 (kk p e s m args below meth c H locs lsm C hW hS hL (okc (hL.2.2.2 _ _ hl).2 hst))
theorem x_al {i : Nat} {z : Nat} (hd : decode M.2.1 pc = .ok (.aload i, 2)) (hq : pc + 2 = q) (hl : ls[i]? = some (some (aR z))) (kk : Wv g M kc ks q ls (aR z :: st) h P) : Wv g M kc ks pc ls st h P := by
  intro p e s m args below meth c H locs lsm C hW hS hL hst
  subst hq
  exact lv_aload C.1 C.2.1 hd (hL.2.2.2 _ _ hl).1 (kk p e s m args below meth c H locs lsm C hW hS hL (okc (hL.2.2.2 _ _ hl).2 hst))
theorem x_ll_n {k : Fin 4} {z : Int} (hd : decode M.2.1 pc = .ok (.lload_n k, 1)) (hq : pc + 1 = q) (hl : ls[(k : Nat)]? = some (some (aJ z))) (kk : Wv g M kc ks q ls (aJ z :: st) h P) : Wv g M kc ks pc ls st h P := by
  intro p e s m args below meth c H locs lsm C hW hS hL hst
  subst hq
  exact lv_lload_n C.1 C.2.1 hd rfl (hL.2.2.2 _ _ hl).1 (kk p e s m args below meth c H locs lsm C hW hS hL (okc (hL.2.2.2 _ _ hl).2 hst))
theorem x_ll {i : Nat} {z : Int} (hd : decode M.2.1 pc = .ok (.lload i, 2)) (hq : pc + 2 = q) (hl : ls[i]? = some (some (aJ z))) (kk : Wv g M kc ks q ls (aJ z :: st) h P) : Wv g M kc ks pc ls st h P := by
  intro p e s m args below meth c H locs lsm C hW hS hL hst
  subst hq
  exact lv_lload C.1 C.2.1 hd (hL.2.2.2 _ _ hl).1 (kk p e s m args below meth c H locs lsm C hW hS hL (okc (hL.2.2.2 _ _ hl).2 hst))
theorem x_is_n_g {k : Fin 4} {i : Nat} {z : Int} (hd : decode M.2.1 pc = .ok (.istore_n k, 1)) (hi : (k : Nat) = i) (hq : pc + 1 = q) (hn : i < ls.length) (hz : ∀ b, i ≠ 0 → ls[i - 1]? = some (some b) → catA b = 1) (kk : Wv g M kc ks q (ls.set i (some (aI z))) st h P) : Wv g M kc ks pc ls (aI z :: st) h P := by
  intro p e s m args below meth c H locs lsm C hW hS hL hst
  subst hq
  exact lv_istore_n C.1 C.2.1 hd hi hL.has (by rw [← hL.2.1]; exact hn) rfl (fun ls2 h2 => kk p e s m args below meth c H locs ls2 C hW hS (hL.set (okh hst) hz _ rfl h2) (okt hst))
theorem x_is_g {i : Nat} {z : Int} (hd : decode M.2.1 pc = .ok (.istore i, 2)) (hq : pc + 2 = q) (hn : i < ls.length) (hz : ∀ b, i ≠ 0 → ls[i - 1]? = some (some b) → catA b = 1) (kk : Wv g M kc ks q (ls.set i (some (aI z))) st h P) : Wv g M kc ks pc ls (aI z :: st) h P := by
  intro p e s m args below meth c H locs lsm C hW hS hL hst
  subst hq
  exact lv_istore C.1 C.2.1 hd hL.has (by rw [← hL.2.1]; exact hn) rfl (fun ls2 h2 => kk p e s m args below meth c H locs ls2 C hW hS (hL.set (okh hst) hz _ rfl h2) (okt hst))
theorem x_as_n_g {k : Fin 4} {i : Nat} {z : Nat} (hd : decode M.2.1 pc = .ok (.astore_n k, 1)) (hi : (k : Nat) = i) (hq : pc + 1 = q) (hn : i < ls.length) (hz : ∀ b, i ≠ 0 → ls[i - 1]? = some (some b) → catA b = 1) (kk : Wv g M kc ks q (ls.set i (some (aR z))) st h P) : Wv g M kc ks pc ls (aR z :: st) h P := by
  intro p e s m args below meth c H locs lsm C hW hS hL hst
  subst hq
  exact lv_astore_n C.1 C.2.1 hd hi hL.has (by rw [← hL.2.1]; exact hn) rfl (fun ls2 h2 => kk p e s m args below meth c H locs ls2 C hW hS (hL.set (okh hst) hz _ rfl h2) (okt hst))
theorem x_as_g {i : Nat} {z : Nat} (hd : decode M.2.1 pc = .ok (.astore i, 2)) (hq : pc + 2 = q) (hn : i < ls.length) (hz : ∀ b, i ≠ 0 → ls[i - 1]? = some (some b) → catA b = 1) (kk : Wv g M kc ks q (ls.set i (some (aR z))) st h P) : Wv g M kc ks pc ls (aR z :: st) h P := by
  intro p e s m args below meth c H locs lsm C hW hS hL hst
  subst hq
  exact lv_astore C.1 C.2.1 hd hL.has (by rw [← hL.2.1]; exact hn) rfl (fun ls2 h2 => kk p e s m args below meth c H locs ls2 C hW hS (hL.set (okh hst) hz _ rfl h2) (okt hst))
theorem x_ii_g {i : Nat} {n z : Int} (hd : decode M.2.1 pc = .ok (.iinc i n, 3)) (hq : pc + 3 = q) (hl : ls[i]? = some (some (aI z))) (hr : inI (z + n)) (hz : ∀ b, i ≠ 0 → ls[i - 1]? = some (some b) → catA b = 1) (kk : Wv g M kc ks q (ls.set i (some (aI (z + n)))) st h P) : Wv g M kc ks pc ls st h P := by
  intro p e s m args below meth c H locs lsm C hW hS hL hst
  subst hq
  have hn : i < M.2.2.1 := by rw [← hL.2.1]; exact (List.getElem?_eq_some_iff.mp hl).1
  have hmem : (i, cv g.2.2.2 (aI z)) ∈ ((List.range M.2.2.1).filterMap (fun j => match ls[j]? with | some (some b) => some (j, cv g.2.2.2 b) | _ => none)) := List.mem_filterMap.mpr ⟨i, List.mem_range.mpr hn, by rw [hl]⟩
  obtain ⟨kk0, hk0⟩ := List.getElem?_of_mem hmem
  exact lv_iinc C.1 C.2.1 hd hL.has (k := kk0) (x := Int32.ofInt z) (v := Int32.ofInt (z + n)) hk0 (Int32.ofInt_add z n).symm hn rfl (fun ls2 h2 => kk p e s m args below meth c H locs ls2 C hW hS (hL.set (a := aI (z + n)) hr hz _ rfl h2) hst)
theorem x_is0 {o0 : Option AV} {t : List (Option AV)} {z : Int} (hd : decode M.2.1 pc = .ok (.istore_n 0, 1)) (hq : pc + 1 = q) (kk : Wv g M kc ks q (some (aI z) :: t) st h P) : Wv g M kc ks pc (o0 :: t) (aI z :: st) h P := x_is_n_g (i := 0) hd rfl hq (by simp) (fun b hb0 _ => absurd rfl hb0) kk
theorem x_as0 {o0 : Option AV} {t : List (Option AV)} {z : Nat} (hd : decode M.2.1 pc = .ok (.astore_n 0, 1)) (hq : pc + 1 = q) (kk : Wv g M kc ks q (some (aR z) :: t) st h P) : Wv g M kc ks pc (o0 :: t) (aR z :: st) h P := x_as_n_g (i := 0) hd rfl hq (by simp) (fun b hb0 _ => absurd rfl hb0) kk
theorem x_ii0 {t : List (Option AV)} {n z : Int} (hd : decode M.2.1 pc = .ok (.iinc 0 n, 3)) (hq : pc + 3 = q) (hr : inI (z + n)) (kk : Wv g M kc ks q (some (aI (z + n)) :: t) st h P) : Wv g M kc ks pc (some (aI z) :: t) st h P := x_ii_g hd hq rfl hr (fun b hb0 _ => absurd rfl hb0) kk
theorem x_is1 {o0 o1 : Option AV} {t : List (Option AV)} {z : Int} (hd : decode M.2.1 pc = .ok (.istore_n 1, 1)) (hq : pc + 1 = q) (hc : notJ o0 = true) (kk : Wv g M kc ks q (o0 :: some (aI z) :: t) st h P) : Wv g M kc ks pc (o0 :: o1 :: t) (aI z :: st) h P := x_is_n_g (i := 1) hd rfl hq (by simp) (fun b _ hb => notJ_cat (by simpa using hb) hc) kk
theorem x_as1 {o0 o1 : Option AV} {t : List (Option AV)} {z : Nat} (hd : decode M.2.1 pc = .ok (.astore_n 1, 1)) (hq : pc + 1 = q) (hc : notJ o0 = true) (kk : Wv g M kc ks q (o0 :: some (aR z) :: t) st h P) : Wv g M kc ks pc (o0 :: o1 :: t) (aR z :: st) h P := x_as_n_g (i := 1) hd rfl hq (by simp) (fun b _ hb => notJ_cat (by simpa using hb) hc) kk
theorem x_ii1 {o0 : Option AV} {t : List (Option AV)} {n z : Int} (hd : decode M.2.1 pc = .ok (.iinc 1 n, 3)) (hq : pc + 3 = q) (hc : notJ o0 = true) (hr : inI (z + n)) (kk : Wv g M kc ks q (o0 :: some (aI (z + n)) :: t) st h P) : Wv g M kc ks pc (o0 :: some (aI z) :: t) st h P := x_ii_g hd hq rfl hr (fun b _ hb => notJ_cat (by simpa using hb) hc) kk
theorem x_is2 {o0 o1 o2 : Option AV} {t : List (Option AV)} {z : Int} (hd : decode M.2.1 pc = .ok (.istore_n 2, 1)) (hq : pc + 1 = q) (hc : notJ o1 = true) (kk : Wv g M kc ks q (o0 :: o1 :: some (aI z) :: t) st h P) : Wv g M kc ks pc (o0 :: o1 :: o2 :: t) (aI z :: st) h P := x_is_n_g (i := 2) hd rfl hq (by simp) (fun b _ hb => notJ_cat (by simpa using hb) hc) kk
theorem x_as2 {o0 o1 o2 : Option AV} {t : List (Option AV)} {z : Nat} (hd : decode M.2.1 pc = .ok (.astore_n 2, 1)) (hq : pc + 1 = q) (hc : notJ o1 = true) (kk : Wv g M kc ks q (o0 :: o1 :: some (aR z) :: t) st h P) : Wv g M kc ks pc (o0 :: o1 :: o2 :: t) (aR z :: st) h P := x_as_n_g (i := 2) hd rfl hq (by simp) (fun b _ hb => notJ_cat (by simpa using hb) hc) kk
theorem x_ii2 {o0 o1 : Option AV} {t : List (Option AV)} {n z : Int} (hd : decode M.2.1 pc = .ok (.iinc 2 n, 3)) (hq : pc + 3 = q) (hc : notJ o1 = true) (hr : inI (z + n)) (kk : Wv g M kc ks q (o0 :: o1 :: some (aI (z + n)) :: t) st h P) : Wv g M kc ks pc (o0 :: o1 :: some (aI z) :: t) st h P := x_ii_g hd hq rfl hr (fun b _ hb => notJ_cat (by simpa using hb) hc) kk
theorem x_is3 {o0 o1 o2 o3 : Option AV} {t : List (Option AV)} {z : Int} (hd : decode M.2.1 pc = .ok (.istore_n 3, 1)) (hq : pc + 1 = q) (hc : notJ o2 = true) (kk : Wv g M kc ks q (o0 :: o1 :: o2 :: some (aI z) :: t) st h P) : Wv g M kc ks pc (o0 :: o1 :: o2 :: o3 :: t) (aI z :: st) h P := x_is_n_g (i := 3) hd rfl hq (by simp) (fun b _ hb => notJ_cat (by simpa using hb) hc) kk
theorem x_as3 {o0 o1 o2 o3 : Option AV} {t : List (Option AV)} {z : Nat} (hd : decode M.2.1 pc = .ok (.astore_n 3, 1)) (hq : pc + 1 = q) (hc : notJ o2 = true) (kk : Wv g M kc ks q (o0 :: o1 :: o2 :: some (aR z) :: t) st h P) : Wv g M kc ks pc (o0 :: o1 :: o2 :: o3 :: t) (aR z :: st) h P := x_as_n_g (i := 3) hd rfl hq (by simp) (fun b _ hb => notJ_cat (by simpa using hb) hc) kk
theorem x_ii3 {o0 o1 o2 : Option AV} {t : List (Option AV)} {n z : Int} (hd : decode M.2.1 pc = .ok (.iinc 3 n, 3)) (hq : pc + 3 = q) (hc : notJ o2 = true) (hr : inI (z + n)) (kk : Wv g M kc ks q (o0 :: o1 :: o2 :: some (aI (z + n)) :: t) st h P) : Wv g M kc ks pc (o0 :: o1 :: o2 :: some (aI z) :: t) st h P := x_ii_g hd hq rfl hr (fun b _ hb => notJ_cat (by simpa using hb) hc) kk
theorem x_is4 {o0 o1 o2 o3 o4 : Option AV} {t : List (Option AV)} {z : Int} (hd : decode M.2.1 pc = .ok (.istore 4, 2)) (hq : pc + 2 = q) (hc : notJ o3 = true) (kk : Wv g M kc ks q (o0 :: o1 :: o2 :: o3 :: some (aI z) :: t) st h P) : Wv g M kc ks pc (o0 :: o1 :: o2 :: o3 :: o4 :: t) (aI z :: st) h P := x_is_g (i := 4) hd hq (by simp) (fun b _ hb => notJ_cat (by simpa using hb) hc) kk
theorem x_as4 {o0 o1 o2 o3 o4 : Option AV} {t : List (Option AV)} {z : Nat} (hd : decode M.2.1 pc = .ok (.astore 4, 2)) (hq : pc + 2 = q) (hc : notJ o3 = true) (kk : Wv g M kc ks q (o0 :: o1 :: o2 :: o3 :: some (aR z) :: t) st h P) : Wv g M kc ks pc (o0 :: o1 :: o2 :: o3 :: o4 :: t) (aR z :: st) h P := x_as_g (i := 4) hd hq (by simp) (fun b _ hb => notJ_cat (by simpa using hb) hc) kk
theorem x_ii4 {o0 o1 o2 o3 : Option AV} {t : List (Option AV)} {n z : Int} (hd : decode M.2.1 pc = .ok (.iinc 4 n, 3)) (hq : pc + 3 = q) (hc : notJ o3 = true) (hr : inI (z + n)) (kk : Wv g M kc ks q (o0 :: o1 :: o2 :: o3 :: some (aI (z + n)) :: t) st h P) : Wv g M kc ks pc (o0 :: o1 :: o2 :: o3 :: some (aI z) :: t) st h P := x_ii_g hd hq rfl hr (fun b _ hb => notJ_cat (by simpa using hb) hc) kk
theorem x_is5 {o0 o1 o2 o3 o4 o5 : Option AV} {t : List (Option AV)} {z : Int} (hd : decode M.2.1 pc = .ok (.istore 5, 2)) (hq : pc + 2 = q) (hc : notJ o4 = true) (kk : Wv g M kc ks q (o0 :: o1 :: o2 :: o3 :: o4 :: some (aI z) :: t) st h P) : Wv g M kc ks pc (o0 :: o1 :: o2 :: o3 :: o4 :: o5 :: t) (aI z :: st) h P := x_is_g (i := 5) hd hq (by simp) (fun b _ hb => notJ_cat (by simpa using hb) hc) kk
theorem x_as5 {o0 o1 o2 o3 o4 o5 : Option AV} {t : List (Option AV)} {z : Nat} (hd : decode M.2.1 pc = .ok (.astore 5, 2)) (hq : pc + 2 = q) (hc : notJ o4 = true) (kk : Wv g M kc ks q (o0 :: o1 :: o2 :: o3 :: o4 :: some (aR z) :: t) st h P) : Wv g M kc ks pc (o0 :: o1 :: o2 :: o3 :: o4 :: o5 :: t) (aR z :: st) h P := x_as_g (i := 5) hd hq (by simp) (fun b _ hb => notJ_cat (by simpa using hb) hc) kk
theorem x_ii5 {o0 o1 o2 o3 o4 : Option AV} {t : List (Option AV)} {n z : Int} (hd : decode M.2.1 pc = .ok (.iinc 5 n, 3)) (hq : pc + 3 = q) (hc : notJ o4 = true) (hr : inI (z + n)) (kk : Wv g M kc ks q (o0 :: o1 :: o2 :: o3 :: o4 :: some (aI (z + n)) :: t) st h P) : Wv g M kc ks pc (o0 :: o1 :: o2 :: o3 :: o4 :: some (aI z) :: t) st h P := x_ii_g hd hq rfl hr (fun b _ hb => notJ_cat (by simpa using hb) hc) kk
theorem x_is6 {o0 o1 o2 o3 o4 o5 o6 : Option AV} {t : List (Option AV)} {z : Int} (hd : decode M.2.1 pc = .ok (.istore 6, 2)) (hq : pc + 2 = q) (hc : notJ o5 = true) (kk : Wv g M kc ks q (o0 :: o1 :: o2 :: o3 :: o4 :: o5 :: some (aI z) :: t) st h P) : Wv g M kc ks pc (o0 :: o1 :: o2 :: o3 :: o4 :: o5 :: o6 :: t) (aI z :: st) h P := x_is_g (i := 6) hd hq (by simp) (fun b _ hb => notJ_cat (by simpa using hb) hc) kk
theorem x_as6 {o0 o1 o2 o3 o4 o5 o6 : Option AV} {t : List (Option AV)} {z : Nat} (hd : decode M.2.1 pc = .ok (.astore 6, 2)) (hq : pc + 2 = q) (hc : notJ o5 = true) (kk : Wv g M kc ks q (o0 :: o1 :: o2 :: o3 :: o4 :: o5 :: some (aR z) :: t) st h P) : Wv g M kc ks pc (o0 :: o1 :: o2 :: o3 :: o4 :: o5 :: o6 :: t) (aR z :: st) h P := x_as_g (i := 6) hd hq (by simp) (fun b _ hb => notJ_cat (by simpa using hb) hc) kk
theorem x_ii6 {o0 o1 o2 o3 o4 o5 : Option AV} {t : List (Option AV)} {n z : Int} (hd : decode M.2.1 pc = .ok (.iinc 6 n, 3)) (hq : pc + 3 = q) (hc : notJ o5 = true) (hr : inI (z + n)) (kk : Wv g M kc ks q (o0 :: o1 :: o2 :: o3 :: o4 :: o5 :: some (aI (z + n)) :: t) st h P) : Wv g M kc ks pc (o0 :: o1 :: o2 :: o3 :: o4 :: o5 :: some (aI z) :: t) st h P := x_ii_g hd hq rfl hr (fun b _ hb => notJ_cat (by simpa using hb) hc) kk
theorem x_is7 {o0 o1 o2 o3 o4 o5 o6 o7 : Option AV} {t : List (Option AV)} {z : Int} (hd : decode M.2.1 pc = .ok (.istore 7, 2)) (hq : pc + 2 = q) (hc : notJ o6 = true) (kk : Wv g M kc ks q (o0 :: o1 :: o2 :: o3 :: o4 :: o5 :: o6 :: some (aI z) :: t) st h P) : Wv g M kc ks pc (o0 :: o1 :: o2 :: o3 :: o4 :: o5 :: o6 :: o7 :: t) (aI z :: st) h P := x_is_g (i := 7) hd hq (by simp) (fun b _ hb => notJ_cat (by simpa using hb) hc) kk
theorem x_as7 {o0 o1 o2 o3 o4 o5 o6 o7 : Option AV} {t : List (Option AV)} {z : Nat} (hd : decode M.2.1 pc = .ok (.astore 7, 2)) (hq : pc + 2 = q) (hc : notJ o6 = true) (kk : Wv g M kc ks q (o0 :: o1 :: o2 :: o3 :: o4 :: o5 :: o6 :: some (aR z) :: t) st h P) : Wv g M kc ks pc (o0 :: o1 :: o2 :: o3 :: o4 :: o5 :: o6 :: o7 :: t) (aR z :: st) h P := x_as_g (i := 7) hd hq (by simp) (fun b _ hb => notJ_cat (by simpa using hb) hc) kk
theorem x_ii7 {o0 o1 o2 o3 o4 o5 o6 : Option AV} {t : List (Option AV)} {n z : Int} (hd : decode M.2.1 pc = .ok (.iinc 7 n, 3)) (hq : pc + 3 = q) (hc : notJ o6 = true) (hr : inI (z + n)) (kk : Wv g M kc ks q (o0 :: o1 :: o2 :: o3 :: o4 :: o5 :: o6 :: some (aI (z + n)) :: t) st h P) : Wv g M kc ks pc (o0 :: o1 :: o2 :: o3 :: o4 :: o5 :: o6 :: some (aI z) :: t) st h P := x_ii_g hd hq rfl hr (fun b _ hb => notJ_cat (by simpa using hb) hc) kk
theorem x_is8 {o0 o1 o2 o3 o4 o5 o6 o7 o8 : Option AV} {t : List (Option AV)} {z : Int} (hd : decode M.2.1 pc = .ok (.istore 8, 2)) (hq : pc + 2 = q) (hc : notJ o7 = true) (kk : Wv g M kc ks q (o0 :: o1 :: o2 :: o3 :: o4 :: o5 :: o6 :: o7 :: some (aI z) :: t) st h P) : Wv g M kc ks pc (o0 :: o1 :: o2 :: o3 :: o4 :: o5 :: o6 :: o7 :: o8 :: t) (aI z :: st) h P := x_is_g (i := 8) hd hq (by simp) (fun b _ hb => notJ_cat (by simpa using hb) hc) kk
theorem x_as8 {o0 o1 o2 o3 o4 o5 o6 o7 o8 : Option AV} {t : List (Option AV)} {z : Nat} (hd : decode M.2.1 pc = .ok (.astore 8, 2)) (hq : pc + 2 = q) (hc : notJ o7 = true) (kk : Wv g M kc ks q (o0 :: o1 :: o2 :: o3 :: o4 :: o5 :: o6 :: o7 :: some (aR z) :: t) st h P) : Wv g M kc ks pc (o0 :: o1 :: o2 :: o3 :: o4 :: o5 :: o6 :: o7 :: o8 :: t) (aR z :: st) h P := x_as_g (i := 8) hd hq (by simp) (fun b _ hb => notJ_cat (by simpa using hb) hc) kk
theorem x_ii8 {o0 o1 o2 o3 o4 o5 o6 o7 : Option AV} {t : List (Option AV)} {n z : Int} (hd : decode M.2.1 pc = .ok (.iinc 8 n, 3)) (hq : pc + 3 = q) (hc : notJ o7 = true) (hr : inI (z + n)) (kk : Wv g M kc ks q (o0 :: o1 :: o2 :: o3 :: o4 :: o5 :: o6 :: o7 :: some (aI (z + n)) :: t) st h P) : Wv g M kc ks pc (o0 :: o1 :: o2 :: o3 :: o4 :: o5 :: o6 :: o7 :: some (aI z) :: t) st h P := x_ii_g hd hq rfl hr (fun b _ hb => notJ_cat (by simpa using hb) hc) kk
theorem x_is9 {o0 o1 o2 o3 o4 o5 o6 o7 o8 o9 : Option AV} {t : List (Option AV)} {z : Int} (hd : decode M.2.1 pc = .ok (.istore 9, 2)) (hq : pc + 2 = q) (hc : notJ o8 = true) (kk : Wv g M kc ks q (o0 :: o1 :: o2 :: o3 :: o4 :: o5 :: o6 :: o7 :: o8 :: some (aI z) :: t) st h P) : Wv g M kc ks pc (o0 :: o1 :: o2 :: o3 :: o4 :: o5 :: o6 :: o7 :: o8 :: o9 :: t) (aI z :: st) h P := x_is_g (i := 9) hd hq (by simp) (fun b _ hb => notJ_cat (by simpa using hb) hc) kk
theorem x_as9 {o0 o1 o2 o3 o4 o5 o6 o7 o8 o9 : Option AV} {t : List (Option AV)} {z : Nat} (hd : decode M.2.1 pc = .ok (.astore 9, 2)) (hq : pc + 2 = q) (hc : notJ o8 = true) (kk : Wv g M kc ks q (o0 :: o1 :: o2 :: o3 :: o4 :: o5 :: o6 :: o7 :: o8 :: some (aR z) :: t) st h P) : Wv g M kc ks pc (o0 :: o1 :: o2 :: o3 :: o4 :: o5 :: o6 :: o7 :: o8 :: o9 :: t) (aR z :: st) h P := x_as_g (i := 9) hd hq (by simp) (fun b _ hb => notJ_cat (by simpa using hb) hc) kk
theorem x_ii9 {o0 o1 o2 o3 o4 o5 o6 o7 o8 : Option AV} {t : List (Option AV)} {n z : Int} (hd : decode M.2.1 pc = .ok (.iinc 9 n, 3)) (hq : pc + 3 = q) (hc : notJ o8 = true) (hr : inI (z + n)) (kk : Wv g M kc ks q (o0 :: o1 :: o2 :: o3 :: o4 :: o5 :: o6 :: o7 :: o8 :: some (aI (z + n)) :: t) st h P) : Wv g M kc ks pc (o0 :: o1 :: o2 :: o3 :: o4 :: o5 :: o6 :: o7 :: o8 :: some (aI z) :: t) st h P := x_ii_g hd hq rfl hr (fun b _ hb => notJ_cat (by simpa using hb) hc) kk
theorem x_is10 {o0 o1 o2 o3 o4 o5 o6 o7 o8 o9 o10 : Option AV} {t : List (Option AV)} {z : Int} (hd : decode M.2.1 pc = .ok (.istore 10, 2)) (hq : pc + 2 = q) (hc : notJ o9 = true) (kk : Wv g M kc ks q (o0 :: o1 :: o2 :: o3 :: o4 :: o5 :: o6 :: o7 :: o8 :: o9 :: some (aI z) :: t) st h P) : Wv g M kc ks pc (o0 :: o1 :: o2 :: o3 :: o4 :: o5 :: o6 :: o7 :: o8 :: o9 :: o10 :: t) (aI z :: st) h P := x_is_g (i := 10) hd hq (by simp) (fun b _ hb => notJ_cat (by simpa using hb) hc) kk
theorem x_as10 {o0 o1 o2 o3 o4 o5 o6 o7 o8 o9 o10 : Option AV} {t : List (Option AV)} {z : Nat} (hd : decode M.2.1 pc = .ok (.astore 10, 2)) (hq : pc + 2 = q) (hc : notJ o9 = true) (kk : Wv g M kc ks q (o0 :: o1 :: o2 :: o3 :: o4 :: o5 :: o6 :: o7 :: o8 :: o9 :: some (aR z) :: t) st h P) : Wv g M kc ks pc (o0 :: o1 :: o2 :: o3 :: o4 :: o5 :: o6 :: o7 :: o8 :: o9 :: o10 :: t) (aR z :: st) h P := x_as_g (i := 10) hd hq (by simp) (fun b _ hb => notJ_cat (by simpa using hb) hc) kk
theorem x_ii10 {o0 o1 o2 o3 o4 o5 o6 o7 o8 o9 : Option AV} {t : List (Option AV)} {n z : Int} (hd : decode M.2.1 pc = .ok (.iinc 10 n, 3)) (hq : pc + 3 = q) (hc : notJ o9 = true) (hr : inI (z + n)) (kk : Wv g M kc ks q (o0 :: o1 :: o2 :: o3 :: o4 :: o5 :: o6 :: o7 :: o8 :: o9 :: some (aI (z + n)) :: t) st h P) : Wv g M kc ks pc (o0 :: o1 :: o2 :: o3 :: o4 :: o5 :: o6 :: o7 :: o8 :: o9 :: some (aI z) :: t) st h P := x_ii_g hd hq rfl hr (fun b _ hb => notJ_cat (by simpa using hb) hc) kk
theorem x_is11 {o0 o1 o2 o3 o4 o5 o6 o7 o8 o9 o10 o11 : Option AV} {t : List (Option AV)} {z : Int} (hd : decode M.2.1 pc = .ok (.istore 11, 2)) (hq : pc + 2 = q) (hc : notJ o10 = true) (kk : Wv g M kc ks q (o0 :: o1 :: o2 :: o3 :: o4 :: o5 :: o6 :: o7 :: o8 :: o9 :: o10 :: some (aI z) :: t) st h P) : Wv g M kc ks pc (o0 :: o1 :: o2 :: o3 :: o4 :: o5 :: o6 :: o7 :: o8 :: o9 :: o10 :: o11 :: t) (aI z :: st) h P := x_is_g (i := 11) hd hq (by simp) (fun b _ hb => notJ_cat (by simpa using hb) hc) kk
theorem x_as11 {o0 o1 o2 o3 o4 o5 o6 o7 o8 o9 o10 o11 : Option AV} {t : List (Option AV)} {z : Nat} (hd : decode M.2.1 pc = .ok (.astore 11, 2)) (hq : pc + 2 = q) (hc : notJ o10 = true) (kk : Wv g M kc ks q (o0 :: o1 :: o2 :: o3 :: o4 :: o5 :: o6 :: o7 :: o8 :: o9 :: o10 :: some (aR z) :: t) st h P) : Wv g M kc ks pc (o0 :: o1 :: o2 :: o3 :: o4 :: o5 :: o6 :: o7 :: o8 :: o9 :: o10 :: o11 :: t) (aR z :: st) h P := x_as_g (i := 11) hd hq (by simp) (fun b _ hb => notJ_cat (by simpa using hb) hc) kk
theorem x_ii11 {o0 o1 o2 o3 o4 o5 o6 o7 o8 o9 o10 : Option AV} {t : List (Option AV)} {n z : Int} (hd : decode M.2.1 pc = .ok (.iinc 11 n, 3)) (hq : pc + 3 = q) (hc : notJ o10 = true) (hr : inI (z + n)) (kk : Wv g M kc ks q (o0 :: o1 :: o2 :: o3 :: o4 :: o5 :: o6 :: o7 :: o8 :: o9 :: o10 :: some (aI (z + n)) :: t) st h P) : Wv g M kc ks pc (o0 :: o1 :: o2 :: o3 :: o4 :: o5 :: o6 :: o7 :: o8 :: o9 :: o10 :: some (aI z) :: t) st h P := x_ii_g hd hq rfl hr (fun b _ hb => notJ_cat (by simpa using hb) hc) kk
theorem x_add {a b : Int} (hd : decode M.2.1 pc = .ok (.iadd, 1)) (hq : pc + 1 = q) (hr : inI (a + b)) (kk : Wv g M kc ks q ls (aI (a + b) :: st) h P) : Wv g M kc ks pc ls (aI b :: aI a :: st) h P := by
  intro p e s m args below meth c H locs lsm C hW hS hL hst
  subst hq
  refine lv_iadd C.1 C.2.1 hd ?_
  rw [← Int32.ofInt_add]
  exact kk p e s m args below meth c H locs lsm C hW hS hL (okc hr (okt (okt hst)))
theorem x_sub {a b : Int} (hd : decode M.2.1 pc = .ok (.isub, 1)) (hq : pc + 1 = q) (hr : inI (a - b)) (kk : Wv g M kc ks q ls (aI (a - b) :: st) h P) : Wv g M kc ks pc ls (aI b :: aI a :: st) h P := by
  intro p e s m args below meth c H locs lsm C hW hS hL hst
  subst hq
  refine lv_isub C.1 C.2.1 hd ?_
  rw [← Int32.ofInt_sub]
  exact kk p e s m args below meth c H locs lsm C hW hS hL (okc hr (okt (okt hst)))
theorem x_mul {a b : Int} (hd : decode M.2.1 pc = .ok (.imul, 1)) (hq : pc + 1 = q) (hr : inI (a * b)) (kk : Wv g M kc ks q ls (aI (a * b) :: st) h P) : Wv g M kc ks pc ls (aI b :: aI a :: st) h P := by
  intro p e s m args below meth c H locs lsm C hW hS hL hst
  subst hq
  refine lv_imul C.1 C.2.1 hd ?_
  rw [← Int32.ofInt_mul]
  exact kk p e s m args below meth c H locs lsm C hW hS hL (okc hr (okt (okt hst)))
def wr (z : Int) : Int := (Int32.ofInt z).toInt
theorem wr_in (z : Int) : inI (wr z) := inI_toInt _
theorem wr_id {z : Int} (hz : inI z) : wr z = z := ti hz
theorem x_addw {a b : Int} (hd : decode M.2.1 pc = .ok (.iadd, 1)) (hq : pc + 1 = q) (kk : Wv g M kc ks q ls (aI (wr (a + b)) :: st) h P) : Wv g M kc ks pc ls (aI b :: aI a :: st) h P := by
  intro p e s m args below meth c H locs lsm C hW hS hL hst
  subst hq
  refine lv_iadd C.1 C.2.1 hd ?_
  rw [← Int32.ofInt_add, ← ofInt_toInt32 (Int32.ofInt (a + b))]
  exact kk p e s m args below meth c H locs lsm C hW hS hL (okc (wr_in _) (okt (okt hst)))
theorem dv_v {a b : Int} (h0 : 0 ≤ a) (h1 : 0 < b) (ha : inI a) (hb : inI b) : Int32.ofInt a / Int32.ofInt b = Int32.ofInt (a / b) ∧ inI (a / b) := by
  have hle : a / b ≤ a := Int.ediv_le_self b h0
  have hge : 0 ≤ a / b := Int.ediv_nonneg h0 (by omega)
  have hi : inI (a / b) := ⟨by omega, by have := ha.2; omega⟩
  refine ⟨?_, hi⟩
  rw [← Int32.toInt_inj, Int32.toInt_div, ti ha, ti hb, ti hi, Int.tdiv_eq_ediv_of_nonneg h0]
  exact Int.bmod_eq_of_le (by have := hi.1; simp; omega) (by have := hi.2; simp; omega)
theorem x_div {a b : Int} (hd : decode M.2.1 pc = .ok (.idiv, 1)) (hq : pc + 1 = q) (h0 : 0 ≤ a) (h1 : 0 < b) (kk : Wv g M kc ks q ls (aI (a / b) :: st) h P) : Wv g M kc ks pc ls (aI b :: aI a :: st) h P := by
  intro p e s m args below meth c H locs lsm C hW hS hL hst
  subst hq
  have hb := okh hst
  have ha := okh (okt hst)
  obtain ⟨e1, e2⟩ := dv_v h0 h1 ha hb
  refine lv_idiv C.1 C.2.1 hd (by rw [ci_eq0 hb]; omega) ?_
  rw [e1]
  exact kk p e s m args below meth c H locs lsm C hW hS hL (okc e2 (okt (okt hst)))
theorem x_rem {a b : Int} (hd : decode M.2.1 pc = .ok (.irem, 1)) (hq : pc + 1 = q) (h0 : 0 ≤ a) (h1 : 0 < b) (kk : Wv g M kc ks q ls (aI (a % b) :: st) h P) : Wv g M kc ks pc ls (aI b :: aI a :: st) h P := by
  intro p e s m args below meth c H locs lsm C hW hS hL hst
  subst hq
  have hb := okh hst
  have ha := okh (okt hst)
  obtain ⟨e1, e2⟩ := dv_v h0 h1 ha hb
  refine lv_irem C.1 C.2.1 hd (by rw [ci_eq0 hb]; omega) ?_
  have e3 : a - a / b * b = a % b := by have := Int.emod_add_mul_ediv a b; have e := Int.mul_comm (a / b) b; omega
  have e4 := Int.emod_nonneg a (show b ≠ 0 by omega)
  have e5 := Int.emod_lt_of_pos a h1
  rw [e1, ← Int32.ofInt_mul, ← Int32.ofInt_sub, e3]
  exact kk p e s m args below meth c H locs lsm C hW hS hL (okc (show inI (a % b) from ⟨by omega, by have := hb.2; omega⟩) (okt (okt hst)))
theorem nn_n {a : Int} (h0 : 0 ≤ a) : Int32.ofInt a = nI a.toNat := by
  unfold nI
  rw [← Int32.ofInt_eq_ofNat, Int.toNat_of_nonneg h0]
theorem sh_amt {s : Int} (h0 : 0 ≤ s) (h1 : s < 32) : ((Int32.ofInt s &&& 31).toBitVec.smod 32).toNat = s.toNat := by
  have : ∀ n : Nat, n < 32 → ((nI n &&& 31).toBitVec.smod 32).toNat = n := by decide +kernel
  rw [nn_n h0]
  exact this _ (by omega)
theorem x_shl {a s0 : Int} (hd : decode M.2.1 pc = .ok (.ishl, 1)) (hq : pc + 1 = q) (h0 : 0 ≤ a) (h1 : 0 ≤ s0) (h2 : s0 < 32) (hr : inI (a * 2 ^ s0.toNat)) (kk : Wv g M kc ks q ls (aI (a * 2 ^ s0.toNat) :: st) h P) : Wv g M kc ks pc ls (aI s0 :: aI a :: st) h P := by
  intro p e s m args below meth c H locs lsm C hW hS hL hst
  subst hq
  refine lv_ishl C.1 C.2.1 hd ?_
  have e0 : (0 : Int) ≤ a * 2 ^ s0.toNat := Int.mul_nonneg h0 (Int.pow_nonneg (by decide))
  have e2 : (a * 2 ^ s0.toNat).toNat = a.toNat * 2 ^ s0.toNat := by rw [Int.toNat_mul h0 (Int.pow_nonneg (by decide)), Int.toNat_pow_of_nonneg (by decide)]; rfl
  have e1 : Int32.ofInt a <<< (Int32.ofInt s0 &&& 31) = Int32.ofInt (a * 2 ^ s0.toNat) := by
    rw [nn_n h0, nn_n e0, e2]
    exact pk_shlN _ _ (sh_amt h1 h2) (by rw [← e2]; have := hr.2; omega)
  rw [e1]
  exact kk p e s m args below meth c H locs lsm C hW hS hL (okc hr (okt (okt hst)))
theorem x_shr {a s0 : Int} (hd : decode M.2.1 pc = .ok (.ishr, 1)) (hq : pc + 1 = q) (h0 : 0 ≤ a) (h1 : 0 ≤ s0) (h2 : s0 < 32) (kk : Wv g M kc ks q ls (aI (a / 2 ^ s0.toNat) :: st) h P) : Wv g M kc ks pc ls (aI s0 :: aI a :: st) h P := by
  intro p e s m args below meth c H locs lsm C hW hS hL hst
  subst hq
  refine lv_ishr C.1 C.2.1 hd ?_
  have ha : inI a := okh (okt hst)
  have hp : (0 : Int) < 2 ^ s0.toNat := Int.pow_pos (by decide)
  have e0 : (0 : Int) ≤ a / 2 ^ s0.toNat := Int.ediv_nonneg h0 (Int.le_of_lt hp)
  have e3 : a / 2 ^ s0.toNat ≤ a := Int.ediv_le_self _ h0
  have e1 : Int32.ofInt a >>> (Int32.ofInt s0 &&& 31) = Int32.ofInt (a / 2 ^ s0.toNat) := by
    have e2 : (a / 2 ^ s0.toNat).toNat = a.toNat / 2 ^ s0.toNat := by
      obtain ⟨n, rfl⟩ := Int.eq_ofNat_of_zero_le h0
      have : ((n : Int) / 2 ^ s0.toNat) = ((n / 2 ^ s0.toNat : Nat) : Int) := by simp
      rw [this]; exact Int.toNat_natCast _
    rw [nn_n h0, nn_n e0, e2]
    exact pk_shrN (by have := ha.2; omega) _ _ (sh_amt h1 h2)
  rw [e1]
  exact kk p e s m args below meth c H locs lsm C hW hS hL (okc (show inI (a / 2 ^ s0.toNat) from ⟨by omega, by have := ha.2; omega⟩) (okt (okt hst)))
theorem bv_and (a b : Nat) : nI a &&& nI b = nI (a &&& b) := by
  unfold nI
  apply Int32.toBitVec_inj.mp
  apply BitVec.eq_of_getLsbD_eq
  intro i hi
  simp [Nat.testBit_and, hi]
theorem bl_and {a b : Nat} (ha : a < 2 ^ 31) (hb : b < 2 ^ 31) : a &&& b < 2 ^ 31 := Nat.and_lt_two_pow _ hb
theorem x_and {a b : Int} (hd : decode M.2.1 pc = .ok (.iand, 1)) (hq : pc + 1 = q) (h0 : 0 ≤ a) (h1 : 0 ≤ b) (kk : Wv g M kc ks q ls (aI ((a.toNat &&& b.toNat : Nat) : Int) :: st) h P) : Wv g M kc ks pc ls (aI b :: aI a :: st) h P := by
  intro p e s m args below meth c H locs lsm C hW hS hL hst
  subst hq
  refine lv_iand C.1 C.2.1 hd ?_
  have hb : inI b := okh hst
  have ha : inI a := okh (okt hst)
  have e1 : Int32.ofInt a &&& Int32.ofInt b = Int32.ofInt ((a.toNat &&& b.toNat : Nat) : Int) := by
    rw [nn_n h0, nn_n h1, bv_and, Int32.ofInt_eq_ofNat]; rfl
  have e2 := bl_and (a := a.toNat) (b := b.toNat) (by have := ha.2; omega) (by have := hb.2; omega)
  rw [e1]
  exact kk p e s m args below meth c H locs lsm C hW hS hL (okc (show inI _ from ⟨by omega, by omega⟩) (okt (okt hst)))
theorem bv_or (a b : Nat) : nI a ||| nI b = nI (a ||| b) := by
  unfold nI
  apply Int32.toBitVec_inj.mp
  apply BitVec.eq_of_getLsbD_eq
  intro i hi
  simp [Nat.testBit_or, hi]
theorem bl_or {a b : Nat} (ha : a < 2 ^ 31) (hb : b < 2 ^ 31) : a ||| b < 2 ^ 31 := Nat.or_lt_two_pow ha hb
theorem x_or {a b : Int} (hd : decode M.2.1 pc = .ok (.ior, 1)) (hq : pc + 1 = q) (h0 : 0 ≤ a) (h1 : 0 ≤ b) (kk : Wv g M kc ks q ls (aI ((a.toNat ||| b.toNat : Nat) : Int) :: st) h P) : Wv g M kc ks pc ls (aI b :: aI a :: st) h P := by
  intro p e s m args below meth c H locs lsm C hW hS hL hst
  subst hq
  refine lv_ior C.1 C.2.1 hd ?_
  have hb : inI b := okh hst
  have ha : inI a := okh (okt hst)
  have e1 : Int32.ofInt a ||| Int32.ofInt b = Int32.ofInt ((a.toNat ||| b.toNat : Nat) : Int) := by
    rw [nn_n h0, nn_n h1, bv_or, Int32.ofInt_eq_ofNat]; rfl
  have e2 := bl_or (a := a.toNat) (b := b.toNat) (by have := ha.2; omega) (by have := hb.2; omega)
  rw [e1]
  exact kk p e s m args below meth c H locs lsm C hW hS hL (okc (show inI _ from ⟨by omega, by omega⟩) (okt (okt hst)))
theorem bv_xor (a b : Nat) : nI a ^^^ nI b = nI (a ^^^ b) := by
  unfold nI
  apply Int32.toBitVec_inj.mp
  apply BitVec.eq_of_getLsbD_eq
  intro i hi
  simp [Nat.testBit_xor, hi]
theorem bl_xor {a b : Nat} (ha : a < 2 ^ 31) (hb : b < 2 ^ 31) : a ^^^ b < 2 ^ 31 := Nat.xor_lt_two_pow ha hb
theorem x_xor {a b : Int} (hd : decode M.2.1 pc = .ok (.ixor, 1)) (hq : pc + 1 = q) (h0 : 0 ≤ a) (h1 : 0 ≤ b) (kk : Wv g M kc ks q ls (aI ((a.toNat ^^^ b.toNat : Nat) : Int) :: st) h P) : Wv g M kc ks pc ls (aI b :: aI a :: st) h P := by
  intro p e s m args below meth c H locs lsm C hW hS hL hst
  subst hq
  refine lv_ixor C.1 C.2.1 hd ?_
  have hb : inI b := okh hst
  have ha : inI a := okh (okt hst)
  have e1 : Int32.ofInt a ^^^ Int32.ofInt b = Int32.ofInt ((a.toNat ^^^ b.toNat : Nat) : Int) := by
    rw [nn_n h0, nn_n h1, bv_xor, Int32.ofInt_eq_ofNat]; rfl
  have e2 := bl_xor (a := a.toNat) (b := b.toNat) (by have := ha.2; omega) (by have := hb.2; omega)
  rw [e1]
  exact kk p e s m args below meth c H locs lsm C hW hS hL (okc (show inI _ from ⟨by omega, by omega⟩) (okt (okt hst)))
theorem x_andG {a b : Int} (hd : decode M.2.1 pc = .ok (.iand, 1)) (hq : pc + 1 = q) (kk : Wv g M kc ks q ls (aI (Int32.ofInt a &&& Int32.ofInt b).toInt :: st) h P) : Wv g M kc ks pc ls (aI b :: aI a :: st) h P := by
  intro p e s m args below meth c H locs lsm C hW hS hL hst
  subst hq
  refine lv_iand C.1 C.2.1 hd ?_
  rw [← ofInt_toInt32 (Int32.ofInt a &&& Int32.ofInt b)]
  exact kk p e s m args below meth c H locs lsm C hW hS hL (okc (inI_toInt _) (okt (okt hst)))
theorem x_ushrG {a b : Int} (hd : decode M.2.1 pc = .ok (.iushr, 1)) (hq : pc + 1 = q) (kk : Wv g M kc ks q ls (aI (((Int32.ofInt a).toUInt32 >>> ((Int32.ofInt b).toUInt32 &&& Int32.toUInt32 31)).toInt32).toInt :: st) h P) : Wv g M kc ks pc ls (aI b :: aI a :: st) h P := by
  intro p e s m args below meth c H locs lsm C hW hS hL hst
  subst hq
  refine lv_iushr C.1 C.2.1 hd (ofInt_toInt32 _).symm ?_
  exact kk p e s m args below meth c H locs lsm C hW hS hL (okc (inI_toInt _) (okt (okt hst)))
theorem x_subG {a b : Int} (hd : decode M.2.1 pc = .ok (.isub, 1)) (hq : pc + 1 = q) (kk : Wv g M kc ks q ls (aI (wr (a - b)) :: st) h P) : Wv g M kc ks pc ls (aI b :: aI a :: st) h P := by
  intro p e s m args below meth c H locs lsm C hW hS hL hst
  subst hq
  refine lv_isub C.1 C.2.1 hd ?_
  rw [← Int32.ofInt_sub, ← ofInt_toInt32 (Int32.ofInt (a - b))]
  exact kk p e s m args below meth c H locs lsm C hW hS hL (okc (wr_in _) (okt (okt hst)))
theorem x_i2l {a : Int} (hd : decode M.2.1 pc = .ok (.i2l, 1)) (hq : pc + 1 = q) (kk : Wv g M kc ks q ls (aJ a :: st) h P) : Wv g M kc ks pc ls (aI a :: st) h P := by
  intro p e s m args below meth c H locs lsm C hW hS hL hst
  subst hq
  have ha : inI a := okh hst
  have hl : inL a := ⟨by have := ha.1; omega, by have := ha.2; omega⟩
  refine lv_i2l C.1 C.2.1 hd (v := Int64.ofInt a) (by rw [← Int64.toInt_inj, Int32.toInt_toInt64, ti ha, tl hl]) ?_
  exact kk p e s m args below meth c H locs lsm C hW hS hL (okc hl (okt hst))
theorem x_lsub {a b : Int} (hd : decode M.2.1 pc = .ok (.lsub, 1)) (hq : pc + 1 = q) (hr : inL (a - b)) (kk : Wv g M kc ks q ls (aJ (a - b) :: st) h P) : Wv g M kc ks pc ls (aJ b :: aJ a :: st) h P := by
  intro p e s m args below meth c H locs lsm C hW hS hL hst
  subst hq
  refine lv_lsub C.1 C.2.1 hd ?_
  rw [← Int64.ofInt_sub]
  exact kk p e s m args below meth c H locs lsm C hW hS hL (okc hr (okt (okt hst)))
theorem x_lmul {a b : Int} (hd : decode M.2.1 pc = .ok (.lmul, 1)) (hq : pc + 1 = q) (hr : inL (a * b)) (kk : Wv g M kc ks q ls (aJ (a * b) :: st) h P) : Wv g M kc ks pc ls (aJ b :: aJ a :: st) h P := by
  intro p e s m args below meth c H locs lsm C hW hS hL hst
  subst hq
  refine lv_lmul C.1 C.2.1 hd ?_
  rw [← Int64.ofInt_mul]
  exact kk p e s m args below meth c H locs lsm C hW hS hL (okc hr (okt (okt hst)))
def lcv (a b : Int) : Int := if b < a then 1 else if a = b then 0 else -1
theorem x_lcmp {a b : Int} (hd : decode M.2.1 pc = .ok (.lcmp, 1)) (hq : pc + 1 = q) (kk : Wv g M kc ks q ls (aI (lcv a b) :: st) h P) : Wv g M kc ks pc ls (aJ b :: aJ a :: st) h P := by
  intro p e s m args below meth c H locs lsm C hW hS hL hst
  subst hq
  refine W.lcmp C.1 C.2.1 hd ?_
  have hb : inL b := okh hst
  have ha : inL a := okh (okt hst)
  have e1 : lg_cmp (Int64.ofInt a) (Int64.ofInt b) = Int32.ofInt (lcv a b) := by
    unfold lg_cmp lcv
    simp only [gt_iff_lt, Int64.lt_iff_toInt_lt, ← Int64.toInt_inj, tl ha, tl hb]
    split
    · rfl
    · split <;> rfl
  rw [e1]
  exact kk p e s m args below meth c H locs lsm C hW hS hL (okc (show inI (lcv a b) by unfold lcv; split; exact ⟨by decide, by decide⟩; split <;> exact ⟨by decide, by decide⟩) (okt (okt hst)))
theorem x_ldc2 {i : Nat} {z : Int} (hd : decode M.2.1 pc = .ok (.ldc2_w i, 3)) (hq : pc + 3 = q) (hm : Cond.constantLong M.1.cls i (Int64.ofInt z) ∈ gw_tbl) (hr : (decide (-9223372036854775808 ≤ z) && decide (z < 9223372036854775808)) = true) (kk : Wv g M kc ks q ls (aJ z :: st) h P) : Wv g M kc ks pc ls st h P := by
  intro p e s m args below meth c H locs lsm C hW hS hL hst
  subst hq
  simp only [Bool.and_eq_true, decide_eq_true_eq] at hr
  exact lv_ldc2 C.1 C.2.1 C.2.2.2.2.1 (C.2.2.2.2.2.1 _ hm) hd (kk p e s m args below meth c H locs lsm C hW hS hL (okc hr hst))
theorem x_ldcw {i : Nat} {z : Int} (hd : decode M.2.1 pc = .ok (.ldc_w i, 3)) (hq : pc + 3 = q) (hm : Cond.constant M.1.cls i (Int32.ofInt z) ∈ gw_tbl) (hr : inIb z = true) (kk : Wv g M kc ks q ls (aI z :: st) h P) : Wv g M kc ks pc ls st h P := by
  intro p e s m args below meth c H locs lsm C hW hS hL hst
  subst hq
  exact lv_ldcw C.1 C.2.1 C.2.2.2.2.1 (C.2.2.2.2.2.1 _ hm) hd (kk p e s m args below meth c H locs lsm C hW hS hL (okc (inI_b hr) hst))
theorem x_dup {a : AV} (hd : decode M.2.1 pc = .ok (.dup, 1)) (hq : pc + 1 = q) (hc : catA a = 1) (kk : Wv g M kc ks q ls (a :: a :: st) h P) : Wv g M kc ks pc ls (a :: st) h P := by
  intro p e s m args below meth c H locs lsm C hW hS hL hst
  subst hq
  exact lv_dup C.1 C.2.1 hd (cv_cat1 hc) (kk p e s m args below meth c H locs lsm C hW hS hL (okc (okh hst) hst))
theorem x_dup2 {a b : AV} (hd : decode M.2.1 pc = .ok (.dup2, 1)) (hq : pc + 1 = q) (hc : catA a = 1) (hc2 : catA b = 1) (kk : Wv g M kc ks q ls (a :: b :: a :: b :: st) h P) : Wv g M kc ks pc ls (a :: b :: st) h P := by
  intro p e s m args below meth c H locs lsm C hW hS hL hst
  subst hq
  exact lv_dup2_11 C.1 C.2.1 hd (cv_cat1 hc) (cv_cat1 hc2) (kk p e s m args below meth c H locs lsm C hW hS hL (okc (okh hst) (okc (okh (okt hst)) hst)))
theorem x_goto {off : Int} {t : Nat} (hd : decode M.2.1 pc = .ok (.goto off, 3)) (ht : (pc : Int) + off = (t : Int)) (kk : Wv g M kc ks t ls st h P) : Wv g M kc ks pc ls st h P := by
  intro p e s m args below meth c H locs lsm C hW hS hL hst
  exact lv_goto C.1 C.2.1 hd ht (kk p e s m args below meth c H locs lsm C hW hS hL hst)
theorem x_if_eq {a : Int} {off : Int} {t : Nat} (hd : decode M.2.1 pc = .ok (.ifCond .eq off, 3)) (ht : (pc : Int) + off = (t : Int)) (hq : pc + 3 = q) (kt : a = 0 → Wv g M kc ks t ls st h P) (kf : ¬ a = 0 → Wv g M kc ks q ls st h P) : Wv g M kc ks pc ls (aI a :: st) h P := by
  intro p e s m args below meth c H locs lsm C hW hS hL hst
  subst hq
  have ha : inI a := okh hst
  have kt0 := fun hc => kt hc p e s m args below meth c H locs lsm C hW hS hL (okt hst)
  have kf0 := fun hc => kf hc p e s m args below meth c H locs lsm C hW hS hL (okt hst)
  exact lv_if_eq C.1 C.2.1 hd ht (fun hc => kt0 ((ci_eq0 ha).mp hc)) (fun hc => kf0 (fun hx => hc ((ci_eq0 ha).mpr hx)))
theorem x_if_ne {a : Int} {off : Int} {t : Nat} (hd : decode M.2.1 pc = .ok (.ifCond .ne off, 3)) (ht : (pc : Int) + off = (t : Int)) (hq : pc + 3 = q) (kt : ¬ a = 0 → Wv g M kc ks t ls st h P) (kf : a = 0 → Wv g M kc ks q ls st h P) : Wv g M kc ks pc ls (aI a :: st) h P := by
  intro p e s m args below meth c H locs lsm C hW hS hL hst
  subst hq
  have ha : inI a := okh hst
  have kt0 := fun hc => kt hc p e s m args below meth c H locs lsm C hW hS hL (okt hst)
  have kf0 := fun hc => kf hc p e s m args below meth c H locs lsm C hW hS hL (okt hst)
  exact lv_if_ne C.1 C.2.1 hd ht (fun hc => kt0 (fun hx => hc ((ci_eq0 ha).mpr hx))) (fun hc => kf0 ((ci_eq0 ha).mp hc))
theorem x_if_lt {a : Int} {off : Int} {t : Nat} (hd : decode M.2.1 pc = .ok (.ifCond .lt off, 3)) (ht : (pc : Int) + off = (t : Int)) (hq : pc + 3 = q) (kt : a < 0 → Wv g M kc ks t ls st h P) (kf : ¬ a < 0 → Wv g M kc ks q ls st h P) : Wv g M kc ks pc ls (aI a :: st) h P := by
  intro p e s m args below meth c H locs lsm C hW hS hL hst
  subst hq
  have ha : inI a := okh hst
  have kt0 := fun hc => kt hc p e s m args below meth c H locs lsm C hW hS hL (okt hst)
  have kf0 := fun hc => kf hc p e s m args below meth c H locs lsm C hW hS hL (okt hst)
  exact lv_if_lt C.1 C.2.1 hd ht (fun hc => kt0 ((ci_lt0 ha).mp hc)) (fun hc => kf0 (fun hx => hc ((ci_lt0 ha).mpr hx)))
theorem x_if_ge {a : Int} {off : Int} {t : Nat} (hd : decode M.2.1 pc = .ok (.ifCond .ge off, 3)) (ht : (pc : Int) + off = (t : Int)) (hq : pc + 3 = q) (kt : 0 ≤ a → Wv g M kc ks t ls st h P) (kf : ¬ 0 ≤ a → Wv g M kc ks q ls st h P) : Wv g M kc ks pc ls (aI a :: st) h P := by
  intro p e s m args below meth c H locs lsm C hW hS hL hst
  subst hq
  have ha : inI a := okh hst
  have kt0 := fun hc => kt hc p e s m args below meth c H locs lsm C hW hS hL (okt hst)
  have kf0 := fun hc => kf hc p e s m args below meth c H locs lsm C hW hS hL (okt hst)
  exact lv_if_ge C.1 C.2.1 hd ht (fun hc => kt0 ((ci_0le ha).mp hc)) (fun hc => kf0 (fun hx => hc ((ci_0le ha).mpr hx)))
theorem x_if_gt {a : Int} {off : Int} {t : Nat} (hd : decode M.2.1 pc = .ok (.ifCond .gt off, 3)) (ht : (pc : Int) + off = (t : Int)) (hq : pc + 3 = q) (kt : 0 < a → Wv g M kc ks t ls st h P) (kf : ¬ 0 < a → Wv g M kc ks q ls st h P) : Wv g M kc ks pc ls (aI a :: st) h P := by
  intro p e s m args below meth c H locs lsm C hW hS hL hst
  subst hq
  have ha : inI a := okh hst
  have kt0 := fun hc => kt hc p e s m args below meth c H locs lsm C hW hS hL (okt hst)
  have kf0 := fun hc => kf hc p e s m args below meth c H locs lsm C hW hS hL (okt hst)
  exact lv_if_gt C.1 C.2.1 hd ht (fun hc => kt0 ((ci_0lt ha).mp hc)) (fun hc => kf0 (fun hx => hc ((ci_0lt ha).mpr hx)))
theorem x_if_le {a : Int} {off : Int} {t : Nat} (hd : decode M.2.1 pc = .ok (.ifCond .le off, 3)) (ht : (pc : Int) + off = (t : Int)) (hq : pc + 3 = q) (kt : a ≤ 0 → Wv g M kc ks t ls st h P) (kf : ¬ a ≤ 0 → Wv g M kc ks q ls st h P) : Wv g M kc ks pc ls (aI a :: st) h P := by
  intro p e s m args below meth c H locs lsm C hW hS hL hst
  subst hq
  have ha : inI a := okh hst
  have kt0 := fun hc => kt hc p e s m args below meth c H locs lsm C hW hS hL (okt hst)
  have kf0 := fun hc => kf hc p e s m args below meth c H locs lsm C hW hS hL (okt hst)
  exact lv_if_le C.1 C.2.1 hd ht (fun hc => kt0 ((ci_le0 ha).mp hc)) (fun hc => kf0 (fun hx => hc ((ci_le0 ha).mpr hx)))
theorem x_ic_eq {a b : Int} {off : Int} {t : Nat} (hd : decode M.2.1 pc = .ok (.if_icmp .eq off, 3)) (ht : (pc : Int) + off = (t : Int)) (hq : pc + 3 = q) (kt : a = b → Wv g M kc ks t ls st h P) (kf : ¬ a = b → Wv g M kc ks q ls st h P) : Wv g M kc ks pc ls (aI b :: aI a :: st) h P := by
  intro p e s m args below meth c H locs lsm C hW hS hL hst
  subst hq
  have hb : inI b := okh hst
  have ha : inI a := okh (okt hst)
  have kt0 := fun hc => kt hc p e s m args below meth c H locs lsm C hW hS hL (okt (okt hst))
  have kf0 := fun hc => kf hc p e s m args below meth c H locs lsm C hW hS hL (okt (okt hst))
  exact lv_icmp_eq C.1 C.2.1 hd ht (fun hc => kt0 ((ci_eq ha hb).mp hc)) (fun hc => kf0 (fun hx => hc ((ci_eq ha hb).mpr hx)))
theorem x_ic_ne {a b : Int} {off : Int} {t : Nat} (hd : decode M.2.1 pc = .ok (.if_icmp .ne off, 3)) (ht : (pc : Int) + off = (t : Int)) (hq : pc + 3 = q) (kt : ¬ a = b → Wv g M kc ks t ls st h P) (kf : a = b → Wv g M kc ks q ls st h P) : Wv g M kc ks pc ls (aI b :: aI a :: st) h P := by
  intro p e s m args below meth c H locs lsm C hW hS hL hst
  subst hq
  have hb : inI b := okh hst
  have ha : inI a := okh (okt hst)
  have kt0 := fun hc => kt hc p e s m args below meth c H locs lsm C hW hS hL (okt (okt hst))
  have kf0 := fun hc => kf hc p e s m args below meth c H locs lsm C hW hS hL (okt (okt hst))
  exact lv_icmp_ne C.1 C.2.1 hd ht (fun hc => kt0 (fun hx => hc ((ci_eq ha hb).mpr hx))) (fun hc => kf0 ((ci_eq ha hb).mp hc))
theorem x_ic_lt {a b : Int} {off : Int} {t : Nat} (hd : decode M.2.1 pc = .ok (.if_icmp .lt off, 3)) (ht : (pc : Int) + off = (t : Int)) (hq : pc + 3 = q) (kt : a < b → Wv g M kc ks t ls st h P) (kf : ¬ a < b → Wv g M kc ks q ls st h P) : Wv g M kc ks pc ls (aI b :: aI a :: st) h P := by
  intro p e s m args below meth c H locs lsm C hW hS hL hst
  subst hq
  have hb : inI b := okh hst
  have ha : inI a := okh (okt hst)
  have kt0 := fun hc => kt hc p e s m args below meth c H locs lsm C hW hS hL (okt (okt hst))
  have kf0 := fun hc => kf hc p e s m args below meth c H locs lsm C hW hS hL (okt (okt hst))
  exact lv_icmp_lt C.1 C.2.1 hd ht (fun hc => kt0 ((ci_lt ha hb).mp hc)) (fun hc => kf0 (fun hx => hc ((ci_lt ha hb).mpr hx)))
theorem x_ic_ge {a b : Int} {off : Int} {t : Nat} (hd : decode M.2.1 pc = .ok (.if_icmp .ge off, 3)) (ht : (pc : Int) + off = (t : Int)) (hq : pc + 3 = q) (kt : b ≤ a → Wv g M kc ks t ls st h P) (kf : ¬ b ≤ a → Wv g M kc ks q ls st h P) : Wv g M kc ks pc ls (aI b :: aI a :: st) h P := by
  intro p e s m args below meth c H locs lsm C hW hS hL hst
  subst hq
  have hb : inI b := okh hst
  have ha : inI a := okh (okt hst)
  have kt0 := fun hc => kt hc p e s m args below meth c H locs lsm C hW hS hL (okt (okt hst))
  have kf0 := fun hc => kf hc p e s m args below meth c H locs lsm C hW hS hL (okt (okt hst))
  exact lv_icmp_ge C.1 C.2.1 hd ht (fun hc => kt0 ((ci_le hb ha).mp hc)) (fun hc => kf0 (fun hx => hc ((ci_le hb ha).mpr hx)))
theorem x_ic_gt {a b : Int} {off : Int} {t : Nat} (hd : decode M.2.1 pc = .ok (.if_icmp .gt off, 3)) (ht : (pc : Int) + off = (t : Int)) (hq : pc + 3 = q) (kt : b < a → Wv g M kc ks t ls st h P) (kf : ¬ b < a → Wv g M kc ks q ls st h P) : Wv g M kc ks pc ls (aI b :: aI a :: st) h P := by
  intro p e s m args below meth c H locs lsm C hW hS hL hst
  subst hq
  have hb : inI b := okh hst
  have ha : inI a := okh (okt hst)
  have kt0 := fun hc => kt hc p e s m args below meth c H locs lsm C hW hS hL (okt (okt hst))
  have kf0 := fun hc => kf hc p e s m args below meth c H locs lsm C hW hS hL (okt (okt hst))
  exact lv_icmp_gt C.1 C.2.1 hd ht (fun hc => kt0 ((ci_lt hb ha).mp hc)) (fun hc => kf0 (fun hx => hc ((ci_lt hb ha).mpr hx)))
theorem x_ic_le {a b : Int} {off : Int} {t : Nat} (hd : decode M.2.1 pc = .ok (.if_icmp .le off, 3)) (ht : (pc : Int) + off = (t : Int)) (hq : pc + 3 = q) (kt : a ≤ b → Wv g M kc ks t ls st h P) (kf : ¬ a ≤ b → Wv g M kc ks q ls st h P) : Wv g M kc ks pc ls (aI b :: aI a :: st) h P := by
  intro p e s m args below meth c H locs lsm C hW hS hL hst
  subst hq
  have hb : inI b := okh hst
  have ha : inI a := okh (okt hst)
  have kt0 := fun hc => kt hc p e s m args below meth c H locs lsm C hW hS hL (okt (okt hst))
  have kf0 := fun hc => kf hc p e s m args below meth c H locs lsm C hW hS hL (okt (okt hst))
  exact lv_icmp_le C.1 C.2.1 hd ht (fun hc => kt0 ((ci_le ha hb).mp hc)) (fun hc => kf0 (fun hx => hc ((ci_le ha hb).mpr hx)))
theorem x_nn {x : Nat} {off : Int} {t : Nat} (hd : decode M.2.1 pc = .ok (.ifnonnull off, 3)) (ht : (pc : Int) + off = (t : Int)) (kk : Wv g M kc ks t ls st h P) : Wv g M kc ks pc ls (aR x :: st) h P := by
  intro p e s m args below meth c H locs lsm C hW hS hL hst
  exact lv_ifnonnull C.1 C.2.1 hd ht (kk p e s m args below meth c H locs lsm C hW hS hL (okt hst))
theorem x_nu {x : Nat} {off : Int} (hd : decode M.2.1 pc = .ok (.ifnull off, 3)) (hq : pc + 3 = q) (kk : Wv g M kc ks q ls st h P) : Wv g M kc ks pc ls (aR x :: st) h P := by
  intro p e s m args below meth c H locs lsm C hW hS hL hst
  subst hq
  exact lv_ifnull C.1 C.2.1 hd (kk p e s m args below meth c H locs lsm C hW hS hL (okt hst))
theorem x_tabI {a : Int} {dflt lo hi : Int} {offs : Array Int} {len : Nat} {off : Int} {t : Nat} (hd : decode M.2.1 pc = .ok (.tableswitch dflt lo hi offs, len)) (h1 : ¬ a < lo) (h2 : ¬ hi < a) (ho : offs[(a - lo).toNat]? = some off) (ht : (pc : Int) + off = (t : Int)) (kk : Wv g M kc ks t ls st h P) : Wv g M kc ks pc ls (aI a :: st) h P := by
  intro p e s m args below meth c H locs lsm C hW hS hL hst
  have ha : inI a := okh hst
  exact lv_tableIn C.1 C.2.1 hd (by rw [ti ha]; exact h1) (by rw [ti ha]; exact h2) (by rw [ti ha]; exact ho) ht (kk p e s m args below meth c H locs lsm C hW hS hL (okt hst))
theorem x_tabO {a : Int} {dflt lo hi : Int} {offs : Array Int} {len : Nat} {t : Nat} (hd : decode M.2.1 pc = .ok (.tableswitch dflt lo hi offs, len)) (h1 : a < lo ∨ hi < a) (ht : (pc : Int) + dflt = (t : Int)) (kk : Wv g M kc ks t ls st h P) : Wv g M kc ks pc ls (aI a :: st) h P := by
  intro p e s m args below meth c H locs lsm C hW hS hL hst
  have ha : inI a := okh hst
  exact lv_tableOut C.1 C.2.1 hd (by rw [ti ha]; exact h1) ht (kk p e s m args below meth c H locs lsm C hW hS hL (okt hst))
theorem x_look {a : Int} {dflt : Int} {ps : Array (Int × Int)} {len : Nat} {off : Int} {t : Nat} (hd : decode M.2.1 pc = .ok (.lookupswitch dflt ps, len)) (hp : (ps.toList.zip (ps.toList.drop 1)).all (fun (a, next) => a.1 < next.1) = true) (ho : Op.lookupswitch.offset ps.toList dflt a = off) (ht : (pc : Int) + off = (t : Int)) (kk : Wv g M kc ks t ls st h P) : Wv g M kc ks pc ls (aI a :: st) h P := by
  intro p e s m args below meth c H locs lsm C hW hS hL hst
  have ha : inI a := okh hst
  exact lv_lookup C.1 C.2.1 hd hp (by rw [ti ha]; exact ho) ht (kk p e s m args below meth c H locs lsm C hW hS hL (okt hst))
end RU
