/-! ===== making cells; the JDK's own ===== -/
def upRo (r : Nat → Nat → Option Nat) (c : Nat) (f : Nat → Option Nat) : Nat → Nat → Option Nat := fun c' => if c' = c then f else r c'
theorem upR_c (v : Nat → Nat → Int) (c : Nat) (f : Nat → Int) : upR v c f c = f := by simp [upR]
theorem upR_n (v : Nat → Nat → Int) {c d : Nat} (f : Nat → Int) (h : d ≠ c) : upR v c f d = v d := by simp [upR, h]
theorem upRo_c (v : Nat → Nat → Option Nat) (c : Nat) (f : Nat → Option Nat) : upRo v c f c = f := by simp [upRo]
theorem upRo_n (v : Nat → Nat → Option Nat) {c d : Nat} (f : Nat → Option Nat) (h : d ≠ c) : upRo v c f d = v d := by simp [upRo, h]
theorem upR_rng {v : Nat → Nat → Int} {c : Nat} {f : Nat → Int} (h : ∀ c k, inI (v c k)) (hz : ∀ k, inI (f k)) : ∀ c' k', inI (upR v c f c' k') := by
  intro c' k'
  unfold upR
  split
  · exact hz _
  · exact h _ _
section MK
variable {g : GL} {M : MD} {kc ks pc q : Nat} {ls : List (Option AV)} {st : List AV} {sh : List (Nat × Nat)} {rf : Nat → Nat → Option Nat} {v : Nat → Nat → Int} {P : PT}
/-- a cell of kind kl, all empty, behind the others -/
def mkH (sh : List (Nat × Nat)) (rf : Nat → Nat → Option Nat) (v : Nat → Nat → Int) (kl : Nat × Nat) : AH := (sh ++ [kl], upRo rf sh.length (fun _ => none), upR v sh.length (fun _ => 0))
theorem make_core {kl : Nat × Nat} {ks' : Nat} (kk : Wv g M (kc + 1) ks' q ls (aR sh.length :: st) (mkH sh rf v kl) P) {p : Program} {e : Env} {s : State} {m : MethodId} {args : Array Value} {below : List Frame} {meth : Method} {c : Code} {H : Heap} {locs : List Loc} {lsm : Array Slot} (C : Ctx g M p s m args meth c) (hW : World g (sh, rf, v) s.heap.size kc H) (hL : Lh g.2.2.2 lsm M.2.2.1 ls) (hst : ∀ a ∈ st, okV a) {x : Nat} {H1 : Heap} (hP1 : va_P g.2.1 vwCl (wsH g.2.2.1 g.2.2.2 (sh, rf, v) ++ [(x, wcell g.2.2.1 g.2.2.2 kl (fun _ => none) (fun _ => 0))]) H1) (hD1 : va_D (fun q => g.2.2.2 ≤ q) (wsH g.2.2.1 g.2.2.2 (sh, rf, v) ++ [(x, wcell g.2.2.1 g.2.2.2 kl (fun _ => none) (fun _ => 0))])) (hS1 : va_S (fun q => g.2.2.2 ≤ q) s.heap H1 locs) :
    W p g.1 e M.2.2.2.2 s m args below meth c H1 locs (kc + 1) ks' (MQ below (QQ g M P) args s M.2.2.2.2.cells M.2.2.2.2.slots (fun q => g.2.2.2 ≤ q)) (F0 m q lsm (.ref x :: st.map (cv g.2.2.2))) := by
  intro T hT X
  subst hT
  have hlen : (wsH g.2.2.1 g.2.2.2 (sh, rf, v)).length = sh.length := by unfold wsH; simp
  have hat : (wsH g.2.2.1 g.2.2.2 (sh, rf, v) ++ [(x, wcell g.2.2.1 g.2.2.2 kl (fun _ => none) (fun _ => 0))])[sh.length]? = some (x, wcell g.2.2.1 g.2.2.2 kl (fun _ => none) (fun _ => 0)) := by
    rw [List.getElem?_append_right (by rw [hlen]; exact Nat.le_refl _), hlen, Nat.sub_self]; rfl
  have h1 := (hP1 _ _ hat).lt
  have h2 : g.2.2.2 ≤ x := hD1.2 _ _ hat
  have h3 := X.heapSize
  have h4 := hW.1
  dsimp only at h1 h4
  have hx : x = g.2.2.2 + sh.length := by
    rcases Nat.lt_or_ge x (g.2.2.2 + sh.length) with hlt | hge
    · have hc : sh[x - g.2.2.2]? = some sh[x - g.2.2.2] := List.getElem?_eq_getElem (by omega)
      have ha2 := wsH_at g.2.2.1 g.2.2.2 (sh, rf, v) hc
      have ha3 : (wsH g.2.2.1 g.2.2.2 (sh, rf, v) ++ [(x, wcell g.2.2.1 g.2.2.2 kl (fun _ => none) (fun _ => 0))])[x - g.2.2.2]? = some (g.2.2.2 + (x - g.2.2.2), wcell g.2.2.1 g.2.2.2 sh[x - g.2.2.2] (rf (x - g.2.2.2)) (v (x - g.2.2.2))) := by
        rw [List.getElem?_append_left (by rw [hlen]; omega)]; exact ha2
      have := hD1.1 _ _ _ _ ha3 hat (by dsimp only; omega)
      omega
    · omega
  subst hx
  have hpush := wsH_push g.2.2.1 g.2.2.2 sh rf (upRo rf sh.length (fun _ => none)) v (upR v sh.length (fun _ => 0)) kl (fun d hd => upRo_n rf _ (by omega)) (fun d hd => upR_n v _ (by omega))
  rw [upRo_c, upR_c] at hpush
  rw [hpush] at hP1
  have hw1 : World g (mkH sh rf v kl) s.heap.size (kc + 1) T.heap := ⟨by show _ = _ + (sh ++ [kl]).length; simp; omega, hP1, upR_rng hW.2.2 (fun _ => ci_0)⟩
  exact kk p e s m args below meth c T.heap locs lsm C hw1 hS1 hL (okc trivial hst) T rfl X
theorem x_new {idx ci : Nat} (hd : decode M.2.1 pc = .ok (.new idx, 3)) (hq : pc + 3 = q) (h8 : ci < 8) (hl1 : Cond.classLink M.1.cls idx (CNn ci) ∈ gw_tbl) (hl2 : Cond.instantiable (CNn ci) (NFn ci) ∈ gw_tbl) (hl3 : Cond.initialized (CNn ci) ∈ gw_tbl) (hc1 : kc + 1 ≤ M.2.2.2.2.cells) (hc2 : ks + NFn ci ≤ M.2.2.2.2.slots) (kk : Wv g M (kc + 1) (ks + NFn ci) q ls (aR sh.length :: st) (mkH sh rf v (ci + 3, NFn ci)) P) : Wv g M kc ks pc ls st (sh, rf, v) P := by
  intro p e s m args below meth c H locs lsm C hW hS hL hst
  subst hq
  refine va_new (D := g.2.1) (cl := vwCl) (A := fun q => g.2.2.2 ≤ q) (C := CNn ci) (T := FTn ci) (N := NFn ci) (fs := (List.range (NFn ci)).map (fun j => fv g.2.2.2 ci j none 0)) C.1 C.2.1 C.2.2.2.2.2.1 (in_all ci h8) (fty ci) (ty_all ci h8) C.2.2.2.2.1 (C.2.2.2.2.2.1 _ hl1) (C.2.2.2.2.2.1 _ hl2) (C.2.2.2.2.2.1 _ hl3) C.2.2.2.2.2.2.2.2.1.1 hW.2.1 (wsH_D _ _ _) hS (fun q hq => Nat.le_trans C.2.2.2.2.2.2.2.2.2 hq) (cl_at ci h8) (fun j hj => ?_) hc1 hc2 hd (fun x H1 hP1 hD1 hS1 => make_core kk C hW hL hst hP1 hD1 hS1)
  have e1 := fv_list (B := g.2.2.2) (ci := ci) (r := fun _ => none) (x := fun _ => 0) hj
  unfold vp_V
  rw [List.getD, e1]
  have : ∀ ci, ci < 8 → ∀ j, j < NFn ci → defaultValue (fty ci j) = fv 0 ci j none 0 := by
    intro ci h
    rcases (show ci = 0 ∨ ci = 1 ∨ ci = 2 ∨ ci = 3 ∨ ci = 4 ∨ ci = 5 ∨ ci = 6 ∨ ci = 7 by omega) with rfl | rfl | rfl | rfl | rfl | rfl | rfl | rfl <;> decide +kernel
  exact this ci h8 j hj
theorem cA_int {s : State} {cA : ClassId} {K : ClassId × ClassId × ClassId} {D : va_G} (h : va_K D vwCl (tysK K) s) (h2 : va_K D vwCl (tysK K ++ [(cA, .int)]) s) : cA = K.1 := by
  have a1 := (h.2 0 (K.1, .int) rfl).2
  have a2 := (h2.2 3 (cA, .int) rfl).2
  exact Option.some.inj (a2.symm.trans a1)
theorem cA_bool {s : State} {cA : ClassId} {K : ClassId × ClassId × ClassId} {D : va_G} (h : va_K D vwCl (tysK K) s) (h2 : va_K D vwCl (tysK K ++ [(cA, .boolean)]) s) : cA = K.2.1 := by
  have a1 := (h.2 1 (K.2.1, .boolean) rfl).2
  have a2 := (h2.2 3 (cA, .boolean) rfl).2
  exact Option.some.inj (a2.symm.trans a1)
theorem cA_held {s : State} {cA : ClassId} {K : ClassId × ClassId × ClassId} {D : va_G} (h : va_K D vwCl (tysK K) s) (h2 : va_K D vwCl (tysK K ++ [(cA, .object RX2)]) s) : cA = K.2.2 := by
  obtain ⟨_, _, _, _, _, a1⟩ := (h.2 2 (K.2.2, .object RX2) rfl).2
  obtain ⟨_, _, _, _, _, a2⟩ := (h2.2 3 (cA, .object RX2) rfl).2
  exact Option.some.inj (a2.symm.trans a1)
theorem x_newI {n : Nat} {z : Int} (hd : decode M.2.1 pc = .ok (.newarray .int, 2)) (hq : pc + 2 = q) (hl : Cond.arrayClass .int ∈ gw_tbl) (hz : z = n) (hn : n < 1000) (hc1 : kc + 1 ≤ M.2.2.2.2.cells) (hc2 : ks + n ≤ M.2.2.2.2.slots) (kk : Wv g M (kc + 1) (ks + n) q ls (aR sh.length :: st) (mkH sh rf v (0, n)) P) : Wv g M kc ks pc ls (aI z :: st) (sh, rf, v) P := by
  intro p e s m args below meth c H locs lsm C hW hS hL hst
  subst hq; subst hz
  have hi : inI (n : Int) := ⟨by omega, by omega⟩
  refine va_newa (atype := .int) (ty := .int) (D := g.2.1) (cl := vwCl) (A := fun q => g.2.2.2 ≤ q) (a0 := (n, .inl (fun _ => Int32.ofInt 0))) (N' := n) C.1 C.2.1 (C.2.2.2.2.2.1 _ hl) rfl C.2.2.2.2.2.2.2.2.1.1 hW.2.1 (wsH_D _ _ _) hS (fun q hq => Nat.le_trans C.2.2.2.2.2.2.2.2.2 hq) (fun cA => rfl) (by rw [ci_lt0 hi]; omega) (by rw [ci_cl hi]; simp) (by show n * 4 ≤ _; omega) hc1 hc2 hd (fun x cA H1 hK1 hP1 hD1 hS1 => ?_)
  rw [cA_int C.2.2.2.2.2.2.2.2.1.1 hK1] at hP1 hD1
  exact make_core kk C hW hL (okt hst) hP1 hD1 hS1
theorem x_newZ {n : Nat} {z : Int} (hd : decode M.2.1 pc = .ok (.newarray .boolean, 2)) (hq : pc + 2 = q) (hl : Cond.arrayClass .boolean ∈ gw_tbl) (hz : z = n) (hn : n < 1000) (hc1 : kc + 1 ≤ M.2.2.2.2.cells) (hc2 : ks + n ≤ M.2.2.2.2.slots) (kk : Wv g M (kc + 1) (ks + n) q ls (aR sh.length :: st) (mkH sh rf v (1, n)) P) : Wv g M kc ks pc ls (aI z :: st) (sh, rf, v) P := by
  intro p e s m args below meth c H locs lsm C hW hS hL hst
  subst hq; subst hz
  have hi : inI (n : Int) := ⟨by omega, by omega⟩
  refine va_newa (atype := .boolean) (ty := .boolean) (D := g.2.1) (cl := vwCl) (A := fun q => g.2.2.2 ≤ q) (a0 := (n, .inl (fun _ => Int32.ofInt 0))) (N' := n) C.1 C.2.1 (C.2.2.2.2.2.1 _ hl) rfl C.2.2.2.2.2.2.2.2.1.1 hW.2.1 (wsH_D _ _ _) hS (fun q hq => Nat.le_trans C.2.2.2.2.2.2.2.2.2 hq) (fun cA => rfl) (by rw [ci_lt0 hi]; omega) (by rw [ci_cl hi]; simp) (by show n * 1 ≤ _; omega) hc1 hc2 hd (fun x cA H1 hK1 hP1 hD1 hS1 => ?_)
  rw [cA_bool C.2.2.2.2.2.2.2.2.1.1 hK1] at hP1 hD1
  exact make_core kk C hW hL (okt hst) hP1 hD1 hS1
theorem x_newH {idx n : Nat} {z : Int} (hd : decode M.2.1 pc = .ok (.anewarray idx, 3)) (hq : pc + 3 = q) (hl : Cond.classLink M.1.cls idx RX2 ∈ gw_tbl) (hz : z = n) (hn : n < 1000) (hc1 : kc + 1 ≤ M.2.2.2.2.cells) (hc2 : ks + n ≤ M.2.2.2.2.slots) (kk : Wv g M (kc + 1) (ks + n) q ls (aR sh.length :: st) (mkH sh rf v (2, n)) P) : Wv g M kc ks pc ls (aI z :: st) (sh, rf, v) P := by
  intro p e s m args below meth c H locs lsm C hW hS hL hst
  subst hq; subst hz
  have hi : inI (n : Int) := ⟨by omega, by omega⟩
  refine va_newq (D := g.2.1) (cl := vwCl) (A := fun q => g.2.2.2 ≤ q) (N' := n) C.1 C.2.1 C.2.2.2.2.1 (C.2.2.2.2.2.1 _ hl) C.2.2.2.2.2.2.2.2.1.2 C.2.2.2.2.2.2.2.2.1.1 hW.2.1 (wsH_D _ _ _) hS (fun q hq => Nat.le_trans C.2.2.2.2.2.2.2.2.2 hq) (by rw [ci_lt0 hi]; omega) (by rw [ci_cl hi]; simp) (by omega) hc1 hc2 hd (fun x cA H1 hK1 hP1 hD1 hS1 => ?_)
  rw [cA_held C.2.2.2.2.2.2.2.2.1.1 hK1] at hP1 hD1
  exact make_core (kl := (2, n)) kk C hW hL (okt hst) hP1 hD1 hS1
theorem x_obj {idx b : Nat} {h : AH} (hd : decode M.2.1 pc = .ok (.invokespecial idx, 3)) (hq : pc + 3 = q) (hl1 : Cond.methodLink M.1.cls idx Lib.objectInit ∈ gw_tbl) (hl2 : Cond.instanceMethod Lib.objectInit ∈ gw_tbl) (hl3 : Cond.code Lib.objectInit ⟨#[0xb1]⟩ 1 none ∈ gw_tbl) (hr1 : 1 ≤ M.2.2.2.2.frames) (hr2 : 20 ≤ M.2.2.2.2.locals) (hrest : (st.map catA).sum ≤ 8) (kk : Wv g M kc ks q ls st h P) : Wv g M kc ks pc ls (aR b :: st) h P := by
  intro p e s m args below meth c H locs lsm C hW hS hL hst
  subst hq
  refine W.objInit C.1 C.2.1 C.2.2.2.2.1 (C.2.2.2.2.2.1 _ hl1) (C.2.2.2.2.2.1 _ hl2) (C.2.2.2.2.2.1 _ hl3) rfl (by rw [C.2.2.1]; exact hL.1) rfl hd hr1 (by have := lv_room (m := m) (pc := pc) (ls := lsm) (rest := (aR b :: st).map (cv g.2.2.2)) (cats_ok g.2.2.2 hrest); omega) ?_
  exact kk p e s m args below meth c H locs lsm C hW hS hL (okt hst)
theorem x_max {idx : Nat} {a b : Int} {h : AH} (hd : decode M.2.1 pc = .ok (.invokestatic idx, 3)) (hq : pc + 3 = q) (hl : Cond.methodLink M.1.cls idx Lib.Math.max.name ∈ gw_tbl) (hl2 : Cond.static Lib.Math.max.name ∈ gw_tbl) (hl3 : Cond.initialized "java/lang/Math" ∈ gw_tbl) (hl4 : Cond.code Lib.Math.max.name Lib.Math.max.code 2 (some .int) ∈ gw_tbl) (hr1 : 1 ≤ M.2.2.2.2.frames) (hr2 : 21 ≤ M.2.2.2.2.locals) (hc : kc ≤ M.2.2.2.2.cells) (hs : ks ≤ M.2.2.2.2.slots) (hrest : (st.map catA).sum ≤ 8) (kk : Wv g M kc ks q ls (aI (if a < b then b else a) :: st) h P) : Wv g M kc ks pc ls (aI b :: aI a :: st) h P := by
  intro p e s m args below meth c H locs lsm C hW hS hL hst
  subst hq
  have hb : inI b := okh hst
  have ha : inI a := okh (okt hst)
  refine va_mmax C.1 C.2.1 (by rw [C.2.2.1]; exact hL.1.symm) C.2.2.2.2.1 (C.2.2.2.2.2.1 _ hl) (C.2.2.2.2.2.1 _ hl2) (C.2.2.2.2.2.1 _ hl3) (C.2.2.2.2.2.1 _ hl4) hr1 (by have := cats_ok g.2.2.2 hrest; omega) hc hs hd ?_
  have e1 : (if Int32.ofInt a < Int32.ofInt b then Int32.ofInt b else Int32.ofInt a) = Int32.ofInt (if a < b then b else a) := by
    by_cases h1 : a < b
    · rw [if_pos h1, if_pos ((ci_lt ha hb).mpr h1)]
    · rw [if_neg h1, if_neg (fun h2 => h1 ((ci_lt ha hb).mp h2))]
  rw [e1]
  exact kk p e s m args below meth c H locs lsm C hW hS hL (okc (show inI _ by split; exact hb; exact ha) (okt (okt hst)))
theorem x_min {idx : Nat} {a b : Int} {h : AH} (hd : decode M.2.1 pc = .ok (.invokestatic idx, 3)) (hq : pc + 3 = q) (hl : Cond.methodLink M.1.cls idx Lib.Math.min.name ∈ gw_tbl) (hl2 : Cond.static Lib.Math.min.name ∈ gw_tbl) (hl3 : Cond.initialized "java/lang/Math" ∈ gw_tbl) (hl4 : Cond.code Lib.Math.min.name Lib.Math.min.code 2 (some .int) ∈ gw_tbl) (hr1 : 1 ≤ M.2.2.2.2.frames) (hr2 : 21 ≤ M.2.2.2.2.locals) (hc : kc ≤ M.2.2.2.2.cells) (hs : ks ≤ M.2.2.2.2.slots) (hrest : (st.map catA).sum ≤ 8) (kk : Wv g M kc ks q ls (aI (if b < a then b else a) :: st) h P) : Wv g M kc ks pc ls (aI b :: aI a :: st) h P := by
  intro p e s m args below meth c H locs lsm C hW hS hL hst
  subst hq
  have hb : inI b := okh hst
  have ha : inI a := okh (okt hst)
  refine va_mmin C.1 C.2.1 (by rw [C.2.2.1]; exact hL.1.symm) C.2.2.2.2.1 (C.2.2.2.2.2.1 _ hl) (C.2.2.2.2.2.1 _ hl2) (C.2.2.2.2.2.1 _ hl3) (C.2.2.2.2.2.1 _ hl4) hr1 (by have := cats_ok g.2.2.2 hrest; omega) hc hs hd ?_
  have e1 : (if Int32.ofInt b < Int32.ofInt a then Int32.ofInt b else Int32.ofInt a) = Int32.ofInt (if b < a then b else a) := by
    by_cases h1 : b < a
    · rw [if_pos h1, if_pos ((ci_lt hb ha).mpr h1)]
    · rw [if_neg h1, if_neg (fun h2 => h1 ((ci_lt hb ha).mp h2))]
  rw [e1]
  exact kk p e s m args below meth c H locs lsm C hW hS hL (okc (show inI _ by split; exact hb; exact ha) (okt (okt hst)))
/-- arraycopy of two rows of ints from 0 on -/
theorem x_copy {idx c1 c2 n1 n2 : Nat} {n : Int} (hd : decode M.2.1 pc = .ok (.invokestatic idx, 3)) (hq : pc + 3 = q) (hl : Cond.methodLink M.1.cls idx arraycopyName ∈ gw_tbl) (hl1 : Cond.native arraycopyName ∈ gw_tbl) (hl2 : Cond.static arraycopyName ∈ gw_tbl) (hl3 : Cond.initialized "java/lang/System" ∈ gw_tbl) (hs1 : sh[c1]? = some (0, n1)) (hs2 : sh[c2]? = some (0, n2)) (h0 : 0 ≤ n) (h1 : n ≤ n1) (h2 : n ≤ n2) (hr1 : 1 ≤ M.2.2.2.2.frames) (hr2 : 8 + (nativeFrameWords "java/lang/System" "arraycopy" 5 + 11) ≤ M.2.2.2.2.locals) (hrest : (st.map catA).sum ≤ 8) (kk : Wv g M kc ks q ls st (sh, rf, upR v c2 (fun j => if j < n.toNat then v c1 j else v c2 j)) P) : Wv g M kc ks pc ls (aI n :: aI 0 :: aR c2 :: aI 0 :: aR c1 :: st) (sh, rf, v) P := by
  intro p e s m args below meth c H locs lsm C hW hS hL hst
  subst hq
  have hi : inI n := okh hst
  have hat1 := wsH_at g.2.2.1 g.2.2.2 (sh, rf, v) hs1
  have hat2 := wsH_at g.2.2.1 g.2.2.2 (sh, rf, v) hs2
  have z0 : (Int32.ofInt 0).toNatClampNeg = 0 := rfl
  refine va_copyi (D := g.2.1) (cl := vwCl) (ty := .int) C.1 C.2.1 (by rw [C.2.2.1]; exact hL.1.symm) C.2.2.2.2.1 (C.2.2.2.2.2.1 _ hl) (C.2.2.2.2.2.1 _ hl1) (C.2.2.2.2.2.1 _ hl2) (C.2.2.2.2.2.1 _ hl3) C.2.2.2.2.2.2.2.2.1.1 hW.2.1 (wsH_D _ _ _) hS c1 c2 0 0 hat1 hat2 rfl rfl rfl (by decide) (by decide) (by rw [ci_lt0 hi]; omega) (by rw [z0, ci_cl hi]; omega) (by rw [z0, ci_cl hi]; omega) (fun _ _ => rfl) hr1 (by have := cats_ok g.2.2.2 hrest; omega) hd (fun H1 locs1 hP1 _ hS1 => ?_)
  have e1 : va_cpy (fun j => Int32.ofInt (v c1 j)) (fun j => Int32.ofInt (v c2 j)) (Int32.ofInt 0).toNatClampNeg (Int32.ofInt 0).toNatClampNeg (Int32.ofInt n).toNatClampNeg = fun j => Int32.ofInt (upR v c2 (fun j => if j < n.toNat then v c1 j else v c2 j) c2 j) := by
    funext j
    rw [z0, ci_cl hi, upR_c]
    unfold va_cpy
    by_cases hj : j < n.toNat
    · rw [if_pos ⟨Nat.zero_le _, by omega⟩, if_pos hj]; simp
    · rw [if_neg (by omega), if_neg hj]
  rw [e1] at hP1
  have hw1 := World_set (g := g) (kc := kc) (n0 := s.heap.size) (rf := rf) (r' := rf) (v := v) (v' := upR v c2 (fun j => if j < n.toNat then v c1 j else v c2 j)) hs2 (fun _ _ => rfl) (fun d hd => upR_n v _ hd) hW.1 (upR_rng hW.2.2 (fun k => by split <;> exact hW.2.2 _ _)) hP1
  exact kk p e s m args below meth c H1 locs1 lsm C hw1 hS1 hL (okt (okt (okt (okt (okt hst)))))
end MK
