/-! ===== cells: fields, arrays, making ===== -/
def FTn (ci : Nat) : u_T := match ci with
  | 0 => TX0
  | 1 => TX1
  | 2 => TX2
  | 3 => TX3
  | 4 => TX4
  | 5 => TX5
  | 6 => TX6
  | _ => TX7
def CNn (ci : Nat) : String := match ci with
  | 0 => RX0
  | 1 => RX1
  | 2 => RX2
  | 3 => RX3
  | 4 => RX4
  | 5 => RX5
  | 6 => RX6
  | _ => RX7
def NFn (ci : Nat) : Nat := match ci with
  | 0 => 8
  | 1 => 5
  | 2 => 2
  | 3 => 5
  | 4 => 2
  | 5 => 5
  | 6 => 11
  | _ => 22
theorem cl_at : ∀ ci, ci < 8 → vwCl[ci]? = some (CNn ci, FTn ci, NFn ci) := fun ci h => by
  rcases (show ci = 0 ∨ ci = 1 ∨ ci = 2 ∨ ci = 3 ∨ ci = 4 ∨ ci = 5 ∨ ci = 6 ∨ ci = 7 by omega) with rfl | rfl | rfl | rfl | rfl | rfl | rfl | rfl <;> rfl
theorem in_X0 : ∀ w ∈ u_ws RX0 TX0 8, w ∈ gw_tbl := by decide +kernel
theorem in_X1 : ∀ w ∈ u_ws RX1 TX1 5, w ∈ gw_tbl := by decide +kernel
theorem in_X2 : ∀ w ∈ u_ws RX2 TX2 2, w ∈ gw_tbl := by decide +kernel
theorem in_X3 : ∀ w ∈ u_ws RX3 TX3 5, w ∈ gw_tbl := by decide +kernel
theorem in_X4 : ∀ w ∈ u_ws RX4 TX4 2, w ∈ gw_tbl := by decide +kernel
theorem in_X5 : ∀ w ∈ u_ws RX5 TX5 5, w ∈ gw_tbl := by decide +kernel
theorem in_X6 : ∀ w ∈ u_ws RX6 TX6 11, w ∈ gw_tbl := by decide +kernel
theorem in_X7 : ∀ w ∈ u_ws RX7 TX7 22, w ∈ gw_tbl := by decide +kernel
theorem in_all : ∀ ci, ci < 8 → ∀ w ∈ u_ws (CNn ci) (FTn ci) (NFn ci), w ∈ gw_tbl := fun ci h => by
  rcases (show ci = 0 ∨ ci = 1 ∨ ci = 2 ∨ ci = 3 ∨ ci = 4 ∨ ci = 5 ∨ ci = 6 ∨ ci = 7 by omega) with rfl | rfl | rfl | rfl | rfl | rfl | rfl | rfl
  · exact in_X0
  · exact in_X1
  · exact in_X2
  · exact in_X3
  · exact in_X4
  · exact in_X5
  · exact in_X6
  · exact in_X7
theorem ty_all : ∀ ci, ci < 8 → ∀ k, k < NFn ci → parseFieldDescriptor (FTn ci k).2.2.1 = some (fty ci k) := fun ci h => by
  rcases (show ci = 0 ∨ ci = 1 ∨ ci = 2 ∨ ci = 3 ∨ ci = 4 ∨ ci = 5 ∨ ci = 6 ∨ ci = 7 by omega) with rfl | rfl | rfl | rfl | rfl | rfl | rfl | rfl
  · exact tyX0_ok
  · exact tyX1_ok
  · exact tyX2_ok
  · exact tyX3_ok
  · exact tyX4_ok
  · exact tyX5_ok
  · exact tyX6_ok
  · exact tyX7_ok
theorem nm_all : ∀ ci, ci < 8 → ∀ a, a < NFn ci → ∀ b, b < NFn ci → a ≠ b → (FTn ci a).2.1 ≠ (FTn ci b).2.1 := fun ci h => by
  rcases (show ci = 0 ∨ ci = 1 ∨ ci = 2 ∨ ci = 3 ∨ ci = 4 ∨ ci = 5 ∨ ci = 6 ∨ ci = 7 by omega) with rfl | rfl | rfl | rfl | rfl | rfl | rfl | rfl
  · exact nmX0
  · exact nmX1
  · exact nmX2
  · exact nmX3
  · exact nmX4
  · exact nmX5
  · exact nmX6
  · exact nmX7
/-- a field's link: of class own, entry idx, it is field k of class ci -/
def FL (own : String) (idx ci k : Nat) : Prop := ci < 8 ∧ k < NFn ci ∧ Cond.fieldLink own idx (FTn ci k).1 (FTn ci k).2.1 (FTn ci k).2.2.1 ∈ gw_tbl
theorem fv_list {B ci N k : Nat} {r : Nat → Option Nat} {x : Nat → Int} (hk : k < N) : ((List.range N).map (fun j => fv B ci j (r j) (x j)))[k]? = some (fv B ci k (r k) (x k)) := by
  rw [List.getElem?_map, List.getElem?_range hk]; rfl
theorem fv_set {B ci N k : Nat} {r r' : Nat → Option Nat} {x x' : Nat → Int} (hr : ∀ j, j ≠ k → r' j = r j) (hx : ∀ j, j ≠ k → x' j = x j) : ((List.range N).map (fun j => fv B ci j (r j) (x j))).set k (fv B ci k (r' k) (x' k)) = (List.range N).map (fun j => fv B ci j (r' j) (x' j)) := by
  apply List.ext_getElem?
  intro i
  by_cases hi : i = k
  · subst hi
    by_cases hN : i < N
    · rw [List.getElem?_set_self (by simpa using hN), fv_list hN]
    · rw [List.getElem?_eq_none (by simp; omega), List.getElem?_eq_none (by simp; omega)]
  · rw [List.getElem?_set_ne (Ne.symm hi)]
    by_cases hN : i < N
    · rw [fv_list hN, fv_list hN, hr i hi, hx i hi]
    · rw [List.getElem?_eq_none (by simp; omega), List.getElem?_eq_none (by simp; omega)]
section MU
variable {g : GL} {M : MD} {kc ks pc q : Nat} {ls : List (Option AV)} {st : List AV} {sh : List (Nat × Nat)} {rf : Nat → Nat → Option Nat} {v : Nat → Nat → Int} {P : PT}
theorem x_getI {idx ci k c : Nat} (hd : decode M.2.1 pc = .ok (.getfield idx, 3)) (hq : pc + 3 = q) (hf : FL M.1.cls idx ci k) (hc : sh[c]? = some (ci + 3, NFn ci)) (hi : isR (fty ci k) = false) (kk : Wv g M kc ks q ls (aI (v c k) :: st) (sh, rf, v) P) : Wv g M kc ks pc ls (aR c :: st) (sh, rf, v) P := by
  intro p e s m args below meth cd H locs lsm C hW hS hL hst
  subst hq
  obtain ⟨h8, hk, hlk⟩ := hf
  have hat := wsH_at g.2.2.1 g.2.2.2 (sh, rf, v) hc
  refine va_get (D := g.2.1) (cl := vwCl) (C := CNn ci) (T := FTn ci) (N := NFn ci) C.1 C.2.1 C.2.2.2.2.2.1 (in_all ci h8) C.2.2.2.2.1 C.2.2.2.2.2.2.2.2.1.1 hW.2.1 c hat (cl_at ci h8) k hk (C.2.2.2.2.2.1 _ hlk) (fun _ h9 => h9) (v := .int (Int32.ofInt (v c k))) (by rw [fv_list hk]; simp [fv, hi]) hd ?_
  exact kk p e s m args below meth cd H locs lsm C hW hS hL (okc (hW.2.2 c k) (okt hst))
theorem x_getR {idx ci k c : Nat} {o : Option Nat} (hd : decode M.2.1 pc = .ok (.getfield idx, 3)) (hq : pc + 3 = q) (hf : FL M.1.cls idx ci k) (hc : sh[c]? = some (ci + 3, NFn ci)) (hi : isR (fty ci k) = true) (ho : rf c k = o) (kk : Wv g M kc ks q ls (aQ o :: st) (sh, rf, v) P) : Wv g M kc ks pc ls (aR c :: st) (sh, rf, v) P := by
  intro p e s m args below meth cd H locs lsm C hW hS hL hst
  subst hq; subst ho
  obtain ⟨h8, hk, hlk⟩ := hf
  have hat := wsH_at g.2.2.1 g.2.2.2 (sh, rf, v) hc
  refine va_get (D := g.2.1) (cl := vwCl) (C := CNn ci) (T := FTn ci) (N := NFn ci) C.1 C.2.1 C.2.2.2.2.2.1 (in_all ci h8) C.2.2.2.2.1 C.2.2.2.2.2.2.2.2.1.1 hW.2.1 c hat (cl_at ci h8) k hk (C.2.2.2.2.2.1 _ hlk) (fun _ h9 => h9) (v := va_rf ((rf c k).map (fun z => g.2.2.2 + z))) (by rw [fv_list hk]; simp [fv, hi]) hd ?_
  exact kk p e s m args below meth cd H locs lsm C hW hS hL (okc trivial (okt hst))
theorem World_set {c : Nat} {kl : Nat × Nat} {r' : Nat → Nat → Option Nat} {v' : Nat → Nat → Int} {n0 : Nat} {H1 : Heap} (hc : sh[c]? = some kl) (hr : ∀ d, d ≠ c → r' d = rf d) (hv : ∀ d, d ≠ c → v' d = v d) (hsz : n0 + kc = g.2.2.2 + sh.length) (hrg : ∀ c k, inI (v' c k)) (hP : va_P g.2.1 vwCl ((wsH g.2.2.1 g.2.2.2 (sh, rf, v)).set c (g.2.2.2 + c, wcell g.2.2.1 g.2.2.2 kl (r' c) (v' c))) H1) : World g (sh, r', v') n0 kc H1 := by
  refine ⟨hsz, ?_, hrg⟩
  rw [wsH_set _ _ _ _ _ _ _ hc hr hv] at hP
  exact hP
/-- a field of whole numbers is written -/
theorem x_putI {idx ci k c : Nat} {z : Int} (hd : decode M.2.1 pc = .ok (.putfield idx, 3)) (hq : pc + 3 = q) (hf : FL M.1.cls idx ci k) (hc : sh[c]? = some (ci + 3, NFn ci)) (hi : fty ci k = .int ∨ (fty ci k = .boolean ∧ (z = 0 ∨ z = 1))) (hfin : (FTn ci k).2.2.2 = false) (kk : Wv g M kc ks q ls st (sh, rf, up v c k z) P) : Wv g M kc ks pc ls (aI z :: aR c :: st) (sh, rf, v) P := by
  intro p e s m args below meth cd H locs lsm C hW hS hL hst
  subst hq
  obtain ⟨h8, hk, hlk⟩ := hf
  have hat := wsH_at g.2.2.1 g.2.2.2 (sh, rf, v) hc
  have hz : inI z := okh hst
  have hR : isR (fty ci k) = false := by rcases hi with h | ⟨h, -⟩ <;> rw [h] <;> rfl
  have hnf : narrow (fty ci k) (.int (Int32.ofInt z)) = .int (Int32.ofInt z) ∧ fits (fty ci k) (.int (Int32.ofInt z)) = true := by
    rcases hi with h | ⟨h, h2 | h2⟩
    · rw [h]; exact ⟨rfl, rfl⟩
    · rw [h, h2]; exact ⟨by decide, by decide⟩
    · rw [h, h2]; exact ⟨by decide, by decide⟩
  have hfs : fv g.2.2.2 ci k (rf c k) (up v c k z c k) = .int (Int32.ofInt z) := by simp [fv, hR, up_c]
  refine va_put (D := g.2.1) (cl := vwCl) (C := CNn ci) (T := FTn ci) (N := NFn ci) (ty := fty ci k) C.1 C.2.1 C.2.2.2.2.2.1 (in_all ci h8) (fty ci) (ty_all ci h8) (nm_all ci h8) C.2.2.2.2.1 C.2.2.2.2.2.2.2.2.1.1 hW.2.1 (wsH_D _ _ _) hS c hat (cl_at ci h8) k hk (C.2.2.2.2.2.1 _ hlk) (fun _ h9 => h9) hfin (ty_all ci h8 k hk) hnf.1 hnf.2 (by simpa using hk) hd (fun H1 locs1 hP1 _ hS1 => ?_)
  have hw1 : World g (sh, rf, up v c k z) s.heap.size kc H1 := by
    refine World_set (rf := rf) (v := v) hc (fun _ _ => rfl) (fun d hd => up_n v k z hd) hW.1 (up_rng hW.2.2 hz) ?_
    · have e1 : wcell g.2.2.1 g.2.2.2 (ci + 3, NFn ci) (rf c) (up v c k z c) = .inr (ci, ((List.range (NFn ci)).map (fun j => fv g.2.2.2 ci j (rf c j) (v c j))).set k (.int (Int32.ofInt z))) := by
        rw [← hfs, fv_set (r' := rf c) (x' := up v c k z c) (fun _ _ => rfl) (fun j hj => by simp [up_c, hj])]
        rfl
      rw [e1]
      exact hP1
  exact kk p e s m args below meth cd H1 locs1 lsm C hw1 hS1 hL (okt (okt hst))
/-- a final field of references is written, in a constructor -/
theorem x_putF {idx ci k c : Nat} {o : Option Nat} (hd : decode M.2.1 pc = .ok (.putfield idx, 3)) (hq : pc + 3 = q) (hf : FL M.1.cls idx ci k) (hc : sh[c]? = some (ci + 3, NFn ci)) (hi : isR (fty ci k) = true) (hfin : (FTn ci k).2.2.2 = true) (hin : M.1.name = "<init>") (hdecl : (FTn ci k).1 = M.1.cls) (kk : Wv g M kc ks q ls st (sh, upO rf c k o, v) P) : Wv g M kc ks pc ls (aQ o :: aR c :: st) (sh, rf, v) P := by
  intro p e s m args below meth cd H locs lsm C hW hS hL hst
  subst hq
  obtain ⟨h8, hk, hlk⟩ := hf
  have hat := wsH_at g.2.2.1 g.2.2.2 (sh, rf, v) hc
  have hnf : narrow (fty ci k) (va_rf (o.map (fun z => g.2.2.2 + z))) = va_rf (o.map (fun z => g.2.2.2 + z)) ∧ fits (fty ci k) (va_rf (o.map (fun z => g.2.2.2 + z))) = true := by
    generalize fty ci k = ty at hi
    cases ty <;> simp [isR] at hi <;> cases o <;> exact ⟨rfl, rfl⟩
  have hfs : fv g.2.2.2 ci k (upO rf c k o c k) (v c k) = va_rf (o.map (fun z => g.2.2.2 + z)) := by simp [fv, hi, upO_c]
  refine va_putF (D := g.2.1) (cl := vwCl) (C := CNn ci) (T := FTn ci) (N := NFn ci) (ty := fty ci k) C.1 C.2.1 C.2.2.2.2.2.1 (in_all ci h8) (fty ci) (ty_all ci h8) (nm_all ci h8) C.2.2.2.2.1 C.2.2.2.2.2.2.2.2.1.1 hW.2.1 (wsH_D _ _ _) hS c hat (cl_at ci h8) k hk (C.2.2.2.2.2.1 _ hlk) (fun _ h9 => h9) hfin (C.2.2.2.2.2.2.2.1.trans hin) hdecl (ty_all ci h8 k hk) hnf.1 hnf.2 (by simpa using hk) hd (fun H1 locs1 hP1 _ hS1 => ?_)
  have hw1 : World g (sh, upO rf c k o, v) s.heap.size kc H1 := by
    refine World_set (rf := rf) (v := v) hc (fun d hd => upO_n rf k o hd) (fun _ _ => rfl) hW.1 hW.2.2 ?_
    · have e1 : wcell g.2.2.1 g.2.2.2 (ci + 3, NFn ci) (upO rf c k o c) (v c) = .inr (ci, ((List.range (NFn ci)).map (fun j => fv g.2.2.2 ci j (rf c j) (v c j))).set k (va_rf (o.map (fun z => g.2.2.2 + z)))) := by
        rw [← hfs, fv_set (r' := upO rf c k o c) (x' := v c) (fun j hj => by simp [upO_c, hj]) (fun _ _ => rfl)]
        rfl
      rw [e1]
      exact hP1
  exact kk p e s m args below meth cd H1 locs1 lsm C hw1 hS1 hL (okt (okt hst))
theorem x_iald {c n : Nat} {i : Int} (hd : decode M.2.1 pc = .ok (.iaload, 1)) (hq : pc + 1 = q) (hc : sh[c]? = some (0, n)) (h0 : 0 ≤ i) (h1 : i < n) (kk : Wv g M kc ks q ls (aI (v c i.toNat) :: st) (sh, rf, v) P) : Wv g M kc ks pc ls (aI i :: aR c :: st) (sh, rf, v) P := by
  intro p e s m args below meth cd H locs lsm C hW hS hL hst
  subst hq
  have hat := wsH_at g.2.2.1 g.2.2.2 (sh, rf, v) hc
  have hi : inI i := okh hst
  refine va_iald (D := g.2.1) (cl := vwCl) C.1 C.2.1 C.2.2.2.2.2.2.2.2.1.1 hW.2.1 c 0 hat rfl (ci_ix h0 h1 hi) hd ?_
  rw [ci_cl hi]
  exact kk p e s m args below meth cd H locs lsm C hW hS hL (okc (hW.2.2 c _) (okt (okt hst)))
theorem x_zald {c n : Nat} {i : Int} (hd : decode M.2.1 pc = .ok (.baload, 1)) (hq : pc + 1 = q) (hc : sh[c]? = some (1, n)) (h0 : 0 ≤ i) (h1 : i < n) (kk : Wv g M kc ks q ls (aI (v c i.toNat) :: st) (sh, rf, v) P) : Wv g M kc ks pc ls (aI i :: aR c :: st) (sh, rf, v) P := by
  intro p e s m args below meth cd H locs lsm C hW hS hL hst
  subst hq
  have hat := wsH_at g.2.2.1 g.2.2.2 (sh, rf, v) hc
  have hi : inI i := okh hst
  refine va_zald (D := g.2.1) (cl := vwCl) C.1 C.2.1 C.2.2.2.2.2.2.2.2.1.1 hW.2.1 c 1 hat rfl (ci_ix h0 h1 hi) hd ?_
  rw [ci_cl hi]
  exact kk p e s m args below meth cd H locs lsm C hW hS hL (okc (hW.2.2 c _) (okt (okt hst)))
theorem x_aald {c n : Nat} {i : Int} {o : Option Nat} (hd : decode M.2.1 pc = .ok (.aaload, 1)) (hq : pc + 1 = q) (hc : sh[c]? = some (2, n)) (h0 : 0 ≤ i) (h1 : i < n) (ho : rf c i.toNat = o) (kk : Wv g M kc ks q ls (aQ o :: st) (sh, rf, v) P) : Wv g M kc ks pc ls (aI i :: aR c :: st) (sh, rf, v) P := by
  intro p e s m args below meth cd H locs lsm C hW hS hL hst
  subst hq; subst ho
  have hat := wsH_at g.2.2.1 g.2.2.2 (sh, rf, v) hc
  have hi : inI i := okh hst
  refine va_aldq (D := g.2.1) (cl := vwCl) C.1 C.2.1 C.2.2.2.2.2.2.2.2.1.1 hW.2.1 c 2 hat rfl (ci_ix h0 h1 hi) hd ?_
  rw [ci_cl hi]
  exact kk p e s m args below meth cd H locs lsm C hW hS hL (okc trivial (okt (okt hst)))
theorem x_alen {c n k : Nat} (hd : decode M.2.1 pc = .ok (.arraylength, 1)) (hq : pc + 1 = q) (hc : sh[c]? = some (k, n)) (hk : k < 3) (hn : n < 2147483648) (kk : Wv g M kc ks q ls (aI (n : Int) :: st) (sh, rf, v) P) : Wv g M kc ks pc ls (aR c :: st) (sh, rf, v) P := by
  intro p e s m args below meth cd H locs lsm C hW hS hL hst
  subst hq
  have hat := wsH_at g.2.2.1 g.2.2.2 (sh, rf, v) hc
  have hk2 := kk p e s m args below meth cd H locs lsm C hW hS hL (okc (show inI (n : Int) from ⟨by omega, by omega⟩) (okt hst))
  rcases (show k = 0 ∨ k = 1 ∨ k = 2 by omega) with rfl | rfl | rfl
  · exact va_alen (D := g.2.1) (cl := vwCl) C.1 C.2.1 C.2.2.2.2.2.2.2.2.1.1 hW.2.1 c 0 hat rfl (v := Int32.ofInt (n : Int)) Int32.ofInt_eq_ofNat.symm hd hk2
  · exact va_alen (D := g.2.1) (cl := vwCl) C.1 C.2.1 C.2.2.2.2.2.2.2.2.1.1 hW.2.1 c 1 hat rfl (v := Int32.ofInt (n : Int)) Int32.ofInt_eq_ofNat.symm hd hk2
  · exact va_alen (D := g.2.1) (cl := vwCl) C.1 C.2.1 C.2.2.2.2.2.2.2.2.1.1 hW.2.1 c 2 hat rfl (v := Int32.ofInt (n : Int)) Int32.ofInt_eq_ofNat.symm hd hk2
theorem upd_up {c i : Nat} {z : Int} : upd (fun j => Int32.ofInt (v c j)) i (Int32.ofInt z) = fun j => Int32.ofInt (up v c i z c j) := by
  funext j
  rw [up_c]
  by_cases hj : j = i
  · simp [upd, hj]
  · simp [upd, hj]
theorem x_iast {c n : Nat} {i z : Int} (hd : decode M.2.1 pc = .ok (.iastore, 1)) (hq : pc + 1 = q) (hc : sh[c]? = some (0, n)) (h0 : 0 ≤ i) (h1 : i < n) (kk : Wv g M kc ks q ls st (sh, rf, up v c i.toNat z) P) : Wv g M kc ks pc ls (aI z :: aI i :: aR c :: st) (sh, rf, v) P := by
  intro p e s m args below meth cd H locs lsm C hW hS hL hst
  subst hq
  have hat := wsH_at g.2.2.1 g.2.2.2 (sh, rf, v) hc
  have hz : inI z := okh hst
  have hi : inI i := okh (okt hst)
  refine va_iast (D := g.2.1) (cl := vwCl) C.1 C.2.1 C.2.2.2.2.2.2.2.2.1.1 hW.2.1 (wsH_D _ _ _) hS c 0 hat rfl (ci_ix h0 h1 hi) hd (fun H1 locs1 hP1 _ hS1 => ?_)
  rw [ci_cl hi, upd_up] at hP1
  have hw1 : World g (sh, rf, up v c i.toNat z) s.heap.size kc H1 := World_set (rf := rf) (v := v) hc (fun _ _ => rfl) (fun d hd => up_n v _ z hd) hW.1 (up_rng hW.2.2 hz) hP1
  exact kk p e s m args below meth cd H1 locs1 lsm C hw1 hS1 hL (okt (okt (okt hst)))
theorem x_zast {c n : Nat} {i z : Int} (hd : decode M.2.1 pc = .ok (.bastore, 1)) (hq : pc + 1 = q) (hc : sh[c]? = some (1, n)) (h0 : 0 ≤ i) (h1 : i < n) (hz1 : z = 0 ∨ z = 1) (kk : Wv g M kc ks q ls st (sh, rf, up v c i.toNat z) P) : Wv g M kc ks pc ls (aI z :: aI i :: aR c :: st) (sh, rf, v) P := by
  intro p e s m args below meth cd H locs lsm C hW hS hL hst
  subst hq
  have hat := wsH_at g.2.2.1 g.2.2.2 (sh, rf, v) hc
  have hz : inI z := okh hst
  have hi : inI i := okh (okt hst)
  have hnz : vp_nar .boolean (Int32.ofInt z) = Int32.ofInt z := by rcases hz1 with rfl | rfl <;> decide
  refine va_zast (D := g.2.1) (cl := vwCl) C.1 C.2.1 C.2.2.2.2.2.2.2.2.1.1 hW.2.1 (wsH_D _ _ _) hS c 1 hat rfl (ci_ix h0 h1 hi) hd (fun H1 locs1 hP1 _ hS1 => ?_)
  rw [ci_cl hi, hnz, upd_up] at hP1
  have hw1 : World g (sh, rf, up v c i.toNat z) s.heap.size kc H1 := World_set (rf := rf) (v := v) hc (fun _ _ => rfl) (fun d hd => up_n v _ z hd) hW.1 (up_rng hW.2.2 hz) hP1
  exact kk p e s m args below meth cd H1 locs1 lsm C hw1 hS1 hL (okt (okt (okt hst)))
theorem x_aast {c n d : Nat} {i : Int} (hd : decode M.2.1 pc = .ok (.aastore, 1)) (hq : pc + 1 = q) (hc : sh[c]? = some (2, n)) (hdd : sh[d]? = some (5, 2)) (h0 : 0 ≤ i) (h1 : i < n) (kk : Wv g M kc ks q ls st (sh, upO rf c i.toNat (some d), v) P) : Wv g M kc ks pc ls (aR d :: aI i :: aR c :: st) (sh, rf, v) P := by
  intro p e s m args below meth cd H locs lsm C hW hS hL hst
  subst hq
  have hat := wsH_at g.2.2.1 g.2.2.2 (sh, rf, v) hc
  have hat2 := wsH_at g.2.2.1 g.2.2.2 (sh, rf, v) hdd
  have hi : inI i := okh (okt hst)
  refine va_astq (D := g.2.1) (cl := vwCl) (r := (RX2, TX2, 2)) C.1 C.2.1 C.2.2.2.2.2.2.2.2.1.1 hW.2.1 (wsH_D _ _ _) hS c 2 d 2 hat rfl hat2 rfl (ci_ix h0 h1 hi) hd (fun H1 locs1 hP1 _ hS1 => ?_)
  have e1 : va_up (fun j => ((rf c j).map (fun z => g.2.2.2 + z))) (Int32.ofInt i).toNatClampNeg (some (g.2.2.2 + d)) = fun j => ((upO rf c i.toNat (some d) c j).map (fun z => g.2.2.2 + z)) := by
    funext j
    rw [ci_cl hi, upO_c]
    by_cases hj : j = i.toNat
    · simp [va_up, hj]
    · simp [va_up, hj]
  rw [e1] at hP1
  have hw1 : World g (sh, upO rf c i.toNat (some d), v) s.heap.size kc H1 := World_set (rf := rf) (v := v) hc (fun d hd => upO_n rf _ _ hd) (fun _ _ => rfl) hW.1 hW.2.2 hP1
  exact kk p e s m args below meth cd H1 locs1 lsm C hw1 hS1 hL (okt (okt (okt hst)))
end MU
