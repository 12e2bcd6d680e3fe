/-! ===== entry, ends, calls, making ===== -/
section EN
variable {g : GL} {M : MD} {kc ks pc q : Nat} {ls : List (Option AV)} {st : List AV} {h : AH} {P : PT}
theorem Framed_ok {s : State} {H : Heap} {locs : List Loc} (hS : va_S (fun q => g.2.2.2 ≤ q) s.heap H locs) {t : State} (ht : t.heap = H) : va_F (fun q => g.2.2.2 ≤ q) s t := hS.F ht
theorem x_iret {z : Int} (hd : decode M.2.1 pc = .ok (.ireturn, 1)) (hr : M.2.2.2.1 = some .int) (hk : kc = M.2.2.2.2.cells) (hs : ks ≤ M.2.2.2.2.slots) (hp : P (some (aI z)) h) : Wv g M kc ks pc ls [aI z] h P := by
  intro p e s m args below meth c H locs lsm C hW hS hL hst
  subst hk
  refine W.widen (Nat.le_refl _) hs ?_
  have hlocks : meth.locks = false := C.2.2.2.2.2.2.1
  exact W.iret (v := Int32.ofInt z) C.1 C.2.1 (C.2.2.2.1.trans hr) (fun t ht hWm => ⟨⟨some (aI z), h, rfl, fun a ha => by cases ha; exact okh hst, hp, by rw [ht]; exact hW, KK.moved hWm.alike C.2.2.2.2.2.2.2.2.1⟩, hS.F ht⟩) hS.2.2 hd hlocks
theorem x_zret {z : Int} (hd : decode M.2.1 pc = .ok (.ireturn, 1)) (hr : M.2.2.2.1 = some .boolean) (hz : z = 0 ∨ z = 1) (hk : kc = M.2.2.2.2.cells) (hs : ks ≤ M.2.2.2.2.slots) (hp : P (some (aI z)) h) : Wv g M kc ks pc ls [aI z] h P := by
  intro p e s m args below meth c H locs lsm C hW hS hL hst
  subst hk
  refine W.widen (Nat.le_refl _) hs ?_
  have hlocks : meth.locks = false := C.2.2.2.2.2.2.1
  exact W.zret (v := Int32.ofInt z) C.1 C.2.1 (C.2.2.2.1.trans hr) (by rcases hz with rfl | rfl <;> decide) (fun t ht hWm => ⟨⟨some (aI z), h, rfl, fun a ha => by cases ha; exact okh hst, hp, by rw [ht]; exact hW, KK.moved hWm.alike C.2.2.2.2.2.2.2.2.1⟩, hS.F ht⟩) hS.2.2 hd hlocks
theorem x_vret (hd : decode M.2.1 pc = .ok (.return_, 1)) (hr : M.2.2.2.1 = none) (hk : kc = M.2.2.2.2.cells) (hs : ks ≤ M.2.2.2.2.slots) (hp : P none h) : Wv g M kc ks pc ls [] h P := by
  intro p e s m args below meth c H locs lsm C hW hS hL hst
  subst hk
  refine W.widen (Nat.le_refl _) hs ?_
  have hlocks : meth.locks = false := C.2.2.2.2.2.2.1
  exact W.vret C.1 C.2.1 (C.2.2.2.1.trans hr) (fun t ht hWm => ⟨⟨none, h, rfl, (fun a ha => by cases ha), hp, by rw [ht]; exact hW, KK.moved hWm.alike C.2.2.2.2.2.2.2.2.1⟩, hS.F ht⟩) hS.2.2 hd hlocks
def entL : List AV → List (Option AV)
  | [] => []
  | a :: t => if catA a = 2 then some a :: none :: entL t else some a :: entL t
theorem cat_cv (B : Nat) (a : AV) : (cv B a).category = catA a := by
  obtain z | z | z := a
  · rfl
  · rfl
  · cases z <;> rfl
theorem entL_args (B : Nat) : ∀ (as : List AV) (n i : Nat) (a : AV), (entL as)[i]? = some (some a) → (n + i, cv B a) ∈ lv_args n (as.map (cv B)) ∧ a ∈ as
  | [], n, i, a, h => by simp [entL] at h
  | b :: t, n, i, a, h => by
    simp only [List.map_cons, lv_args, cat_cv]
    unfold entL at h
    by_cases hb : catA b = 2
    · rw [if_pos hb] at h ⊢
      match i, h with
      | 0, h =>
        have : b = a := by simpa using h
        subst this
        exact ⟨List.mem_cons_self, List.mem_cons_self⟩
      | 1, h => simp at h
      | j + 2, h =>
        have := entL_args B t (n + 2) j a (by simpa using h)
        exact ⟨List.mem_cons_of_mem _ (by rw [show n + (j + 2) = n + 2 + j by omega]; exact this.1), List.mem_cons_of_mem _ this.2⟩
    · rw [if_neg hb] at h ⊢
      match i, h with
      | 0, h =>
        have : b = a := by simpa using h
        subst this
        exact ⟨List.mem_cons_self, List.mem_cons_self⟩
      | j + 1, h =>
        have := entL_args B t (n + 1) j a (by simpa using h)
        exact ⟨List.mem_cons_of_mem _ (by rw [show n + (j + 1) = n + 1 + j by omega]; exact this.1), List.mem_cons_of_mem _ this.2⟩
theorem entL_len (B : Nat) : ∀ as : List AV, (lg_sl (as.map (cv B))).length = (entL as).length
  | [] => rfl
  | b :: t => by
    have ih := entL_len B t
    unfold lg_sl at ih ⊢
    simp only [List.map_cons, List.flatMap_cons, List.length_append, cat_cv, entL]
    by_cases hb : catA b = 2
    · simp only [hb, if_true, List.length_cons, List.length_nil]; omega
    · simp only [hb, if_false, List.length_cons, List.length_nil]; omega
theorem x_entry {as : List AV} (hy : plainName M.1.cls = true) (hls : ls = entL as ++ List.replicate (M.2.2.1 - (entL as).length) none) (hn : (entL as).length ≤ M.2.2.1) (k : Wv g M 0 0 0 ls [] h P) : Cv g M as h P := by
  refine Met.ofW (cc := M.2.1) (maxL := M.2.2.1) (ret := M.2.2.2.1) hy rfl ?_
  intro p e s m args below meth c s₁ B hml hv
  obtain ⟨rfl, hok, hW, hK⟩ := hv
  have hts := atoms_spec (ws := wsM M) B.pre
  have hown : s.vm.findClass M.1.cls = some m.cls := findClass_of_methodNamed B.named
  have hin : meth.name = M.1.name := (name_of_methodNamed B.named B.method).1
  have C : Ctx g M p s m ((as.map (cv g.2.2.2)).toArray) meth c := ⟨B.exec, B.bytes, hml, B.returns, hown, fun w hw => hts w (List.mem_cons_of_mem _ hw), B.notSynchronized, hin, hK, by have := hW.1; omega⟩
  have hl := lv_entry (as.map (cv g.2.2.2)) (n := M.2.2.1) (by rw [entL_len]; exact hn)
  rw [lg_entry_eq]
  refine k p e s m _ below meth c s.heap [] _ C hW va_S.rf ?_ (fun a ha => by cases ha)
  refine ⟨hl.1, by rw [hls]; simp; omega, hl.2.1, fun i a hi => ?_⟩
  have hi2 : (entL as)[i]? = some (some a) := by
    rw [hls] at hi
    by_cases hlt : i < (entL as).length
    · rw [List.getElem?_append_left hlt] at hi; exact hi
    · rw [List.getElem?_append_right (by omega)] at hi
      rw [List.getElem?_replicate] at hi
      split at hi <;> simp at hi
  have h1 := entL_args g.2.2.2 as 0 i a hi2
  rw [Nat.zero_add] at h1
  exact ⟨hl.2.2 _ h1.1, hok a h1.2⟩
theorem good_ws {M' : MD} (hcode : Cond.code M'.1 M'.2.1 M'.2.2.1 M'.2.2.2.1 ∈ gw_tbl) : GoodIn gw_tbl (wsM M') := by
  intro w hw
  have hm : w ∈ gw_tbl := by
    rcases List.mem_cons.mp hw with rfl | h
    · exact hcode
    · exact h
  exact ⟨hm, good_of_word (List.mem_filter.mp hm).2⟩
/-- what a call rests on: words, descriptor, room -/
def CB (M : MD) (idx : Nat) (M' : MD) (n : Nat) : Prop :=
  Cond.methodLink M.1.cls idx M'.1 ∈ gw_tbl ∧ Cond.initialized M'.1.cls ∈ gw_tbl ∧ Cond.code M'.1 M'.2.1 M'.2.2.1 M'.2.2.2.1 ∈ gw_tbl ∧ (M'.1.cls ≠ "java/lang/invoke/MethodHandle" ∧ M'.1.cls ≠ "java/lang/invoke/VarHandle" ∧ (parseMethodDescriptor M'.1.desc).map (fun d => d.parameters.length) = some n) ∧
  (M'.2.2.2.2.frames + 1 ≤ M.2.2.2.2.frames ∧ 8 + (M'.2.2.1 + 11) + M'.2.2.2.2.locals ≤ M.2.2.2.2.locals)
def CLV (M : MD) (idx : Nat) (M' : MD) (n : Nat) : Prop := CB M idx M' n ∧ Cond.instanceMethod M'.1 ∈ gw_tbl ∧ Cond.selects M'.1.cls M'.1 M'.1 ∈ gw_tbl
def CLS (M : MD) (idx : Nat) (M' : MD) (n : Nat) : Prop := CB M idx M' n ∧ Cond.static M'.1 ∈ gw_tbl
def CLI (M : MD) (idx : Nat) (M' : MD) (n : Nat) : Prop := CB M idx M' n ∧ Cond.instanceMethod M'.1 ∈ gw_tbl ∧ M'.1.name = "<init>"
theorem CB.use {M M' : MD} {idx n : Nat} (b : CB M idx M' n) {p : Program} {s : State} {m : MethodId} {args : Array Value} {meth : Method} {c : Code} (C : Ctx g M p s m args meth c) : CallB M.2.2.2.2 s args M.1.cls idx M'.1 M'.2.1 M'.2.2.1 M'.2.2.2.1 (wsM M') M'.2.2.2.2 M'.2.2.2.2.cells M'.2.2.2.2.slots n :=
  callB_of n C.2.2.2.2.2.1 (good_ws b.2.2.1) rfl rfl rfl (C.2.2.2.2.2.1 _ b.2.1) (C.2.2.2.2.2.1 _ b.1) b.2.2.2.1 b.2.2.2.2
theorem PP_blind {as : List AV} {h : AH} : FrameBlind (va_Pc (as.map (cv g.2.2.2)) (PP g as h)) := by
  intro a U g0 mk q
  obtain ⟨q0, q1, q2, q3⟩ := q
  exact ⟨q0, q1, q2, KK.moved (u := U) (U := U.calling g0 mk a) (Vm.Alike.refl U.vm) q3⟩
/-- the heap's size, where the machine stands -/
theorem size_at {p : Program} {l : Launch} {e : Env} {R : Room} {s : State} {m : MethodId} {args : Array Value} {below : List Frame} {meth : Method} {c : Code} {T : State} {locs : List Loc} (X : Stand p l e R s m args below meth c T locs kc ks) (hB : g.2.2.2 ≤ s.heap.size) (hW : World g h s.heap.size kc T.heap) (hS : va_S (fun q => g.2.2.2 ≤ q) s.heap T.heap locs) : T.heap.size = g.2.2.2 + h.1.length := by
  have h1 := X.heapSize
  have h2 := hW.1
  have h3 := hS.1
  by_cases hn : h.1.length = 0
  · omega
  · have hc : h.1[h.1.length - 1]? = some h.1[h.1.length - 1] := List.getElem?_eq_getElem (by omega)
    have := (hW.2.1 (h.1.length - 1) _ (wsH_at g.2.2.1 g.2.2.2 h hc)).lt
    dsimp only at this
    omega
theorem x_run {M' : MD} {as rest : List AV} {P' : PT} (hq : pc + 3 = q)
    (hr : ∀ (p : Program) (e : Env) (s : State) (m : MethodId) (args : Array Value) (below : List Frame) (meth : Method) (c : Code) (H : Heap) (locs : List Loc) (lsm : Array Slot), Ctx g M p s m args meth c → World g h s.heap.size kc H → H.size = g.2.2.2 + h.1.length → lsm.size = M.2.2.1 → (∀ a ∈ as, okV a) → va_Run p g.1 e M.2.2.2.2 s m args below meth c H locs kc ks M'.2.2.2.2.cells M'.2.2.2.2.slots (F0 m pc lsm (st.map (cv g.2.2.2))) (rest.map (cv g.2.2.2)) (QQ g M' P' ((as.map (cv g.2.2.2)).toArray)) (fun q => g.2.2.2 ≤ q))
    (hst0 : st = as.reverse ++ rest)
    (kk : ∀ r h', P' r h' → Wv g M (kc + M'.2.2.2.2.cells) (ks + M'.2.2.2.2.slots) q ls (r.toList ++ rest) h' P) : Wv g M kc ks pc ls st h P := by
  intro p e s m args below meth c H locs lsm C hW hS hL hst
  subst hq
  intro T hT X
  subst hT
  have hsz := size_at X C.2.2.2.2.2.2.2.2.2 hW hS
  have hokA : ∀ a ∈ as, okV a := fun a ha => hst a (by rw [hst0]; exact List.mem_append_left _ (List.mem_reverse.mpr ha))
  have hokR : ∀ a ∈ rest, okV a := fun a ha => hst a (by rw [hst0]; exact List.mem_append_right _ ha)
  obtain ⟨v0, st₀, t, T', L, h0, X', hLL, e1, e2, ⟨⟨r, h', c1, c2, c3, c4, c5⟩, hz, hkp⟩, stp⟩ := hr p e s m args below meth c T.heap locs lsm C hW hsz hL.1 hokA T rfl X
  have hv : v0 = r.map (cv g.2.2.2) := by injection c1
  subst hv
  rw [h0] at hz hkp c4
  have hW1 : World g h' s.heap.size (kc + M'.2.2.2.2.cells) T'.heap := by
    refine ⟨?_, by rw [e1]; exact c4.2.1, c4.2.2⟩
    have a1 := c4.1
    have a2 := hW.1
    omega
  have hS1 : va_S (fun q => g.2.2.2 ≤ q) s.heap T'.heap (locs ++ L) := by
    refine ⟨Nat.le_trans hS.1 (by rw [e1]; exact hz), fun q h1 h2 => ?_, fun q hq => ?_⟩
    · rw [e1, hkp q (Nat.lt_of_lt_of_le h1 hS.1) h2]
      exact hS.2.1 q h1 h2
    · rcases List.mem_append.mp hq with h | h
      · exact hS.2.2 q h
      · exact hLL q h
  obtain ⟨t2, a1, b1⟩ := kk r h' c3 p e s m args below meth c T'.heap (locs ++ L) lsm C hW1 hS1 hL (by
    intro a ha
    rcases List.mem_append.mp ha with h | h
    · cases r with
      | none => cases h
      | some b =>
        have : a = b := by simpa using h
        subst this
        exact c2 a rfl
    · exact hokR a h) T' rfl X'
  refine ⟨t2, stp t2 ?_, b1⟩
  rw [List.map_append] at a1
  have e3 : (r.map (cv g.2.2.2)).toList = r.toList.map (cv g.2.2.2) := by cases r <;> rfl
  rw [e3]
  exact a1
theorem cats_ok (B : Nat) {rest : List AV} (h : (rest.map catA).sum ≤ 8) : ((rest.map (cv B)).map fun v => v.category).sum ≤ 8 := by
  rw [List.map_map]
  have : (fun v => v.category) ∘ cv B = catA := by funext a; exact cat_cv B a
  rw [this]
  exact h
theorem x_callV {M' : MD} {idx n b ci N : Nat} {as rest : List AV} {P' : PT} (hd : decode M.2.1 pc = .ok (.invokevirtual idx, 3)) (hq : pc + 3 = q) (hm : CLV M idx M' n) (hC : Cv g M' (aR b :: as) h P') (hst0 : st = (aR b :: as).reverse ++ rest) (hn : as.length = n) (hc : h.1[b]? = some (ci + 3, N)) (h8 : ci < 8) (hcn : CNn ci = M'.1.cls) (hrest : (rest.map catA).sum ≤ 8) (hcells : kc + M'.2.2.2.2.cells ≤ M.2.2.2.2.cells ∧ ks + M'.2.2.2.2.slots ≤ M.2.2.2.2.slots)
    (kk : ∀ r h', P' r h' → Wv g M (kc + M'.2.2.2.2.cells) (ks + M'.2.2.2.2.slots) q ls (r.toList ++ rest) h' P) : Wv g M kc ks pc ls st h P := by
  refine x_run (M' := M') (as := aR b :: as) (rest := rest) (P' := P') hq ?_ hst0 kk
  intro p e s m args below meth c H locs lsm C hW hsz hlsz hok
  have hat := wsH_at g.2.2.1 g.2.2.2 h hc
  have hrecv := va_recv (q := (CNn ci, FTn ci, NFn ci)) C.2.2.2.2.2.2.2.2.1.1 hW.2.1 (cl_at ci h8) hat
  have hrecv : ∃ cell : Cell, H[g.2.2.2 + b]? = some cell ∧ cell.vm.isStatics = false ∧ s.vm.findClass M'.1.cls = some cell.cls := by rw [← hcn]; exact hrecv
  refine va_runV (C := M'.1.cls) (b := g.2.2.2 + b) (As := as.map (cv g.2.2.2)) ⟨C.1, C.2.1, C.2.2.1, C.2.2.2.2.1, C.2.2.2.2.2.1⟩ hC ⟨hm.1.use C, C.2.2.2.2.2.1 _ hm.2.1, C.2.2.2.2.2.1 _ hm.2.2⟩ ⟨PP_blind, hrecv, fun U hU hWm => ⟨rfl, hok, ?_, KK.moved hWm.alike C.2.2.2.2.2.2.2.2.1⟩⟩ rfl (by simpa using hn) hlsz ?_ (lv_room (cats_ok _ hrest)) hd hcells
  · rw [hU]
    exact ⟨by omega, hW.2.1, hW.2.2⟩
  · show st.map (cv g.2.2.2) = _
    rw [hst0]
    simp [cv, va_rf]
theorem x_callS {M' : MD} {idx n : Nat} {as rest : List AV} {P' : PT} (hd : decode M.2.1 pc = .ok (.invokestatic idx, 3)) (hq : pc + 3 = q) (hm : CLS M idx M' n) (hC : Cv g M' as h P') (hst0 : st = as.reverse ++ rest) (hn : as.length = n) (hrest : (rest.map catA).sum ≤ 8) (hcells : kc + M'.2.2.2.2.cells ≤ M.2.2.2.2.cells ∧ ks + M'.2.2.2.2.slots ≤ M.2.2.2.2.slots)
    (kk : ∀ r h', P' r h' → Wv g M (kc + M'.2.2.2.2.cells) (ks + M'.2.2.2.2.slots) q ls (r.toList ++ rest) h' P) : Wv g M kc ks pc ls st h P := by
  refine x_run (M' := M') (as := as) (rest := rest) (P' := P') hq ?_ hst0 kk
  intro p e s m args below meth c H locs lsm C hW hsz hlsz hok
  refine va_runS (As := as.map (cv g.2.2.2)) ⟨C.1, C.2.1, C.2.2.1, C.2.2.2.2.1, C.2.2.2.2.2.1⟩ hC ⟨hm.1.use C, C.2.2.2.2.2.1 _ hm.2⟩ ⟨PP_blind, fun U hU hWm => ⟨rfl, hok, ?_, KK.moved hWm.alike C.2.2.2.2.2.2.2.2.1⟩⟩ rfl (by simpa using hn) hlsz ?_ (lv_room (cats_ok _ hrest)) hd hcells
  · rw [hU]
    exact ⟨by omega, hW.2.1, hW.2.2⟩
  · show st.map (cv g.2.2.2) = _
    rw [hst0]
    simp
theorem x_callI {M' : MD} {idx n b : Nat} {as rest : List AV} {P' : PT} (hd : decode M.2.1 pc = .ok (.invokespecial idx, 3)) (hq : pc + 3 = q) (hm : CLI M idx M' n) (hret : M'.2.2.2.1 = none) (hC : Cv g M' (aR b :: as) h P') (hst0 : st = (aR b :: as).reverse ++ rest) (hn : as.length = n) (hrest : (rest.map catA).sum ≤ 8) (hcells : kc + M'.2.2.2.2.cells ≤ M.2.2.2.2.cells ∧ ks + M'.2.2.2.2.slots ≤ M.2.2.2.2.slots)
    (kk : ∀ r h', P' r h' → Wv g M (kc + M'.2.2.2.2.cells) (ks + M'.2.2.2.2.slots) q ls (r.toList ++ rest) h' P) : Wv g M kc ks pc ls st h P := by
  refine x_run (M' := M') (as := aR b :: as) (rest := rest) (P' := P') hq ?_ hst0 kk
  intro p e s m args below meth c H locs lsm C hW hsz hlsz hok
  have hb := hm.1.use C
  rw [hret] at hb
  refine va_runI (b := g.2.2.2 + b) (As := as.map (cv g.2.2.2)) ⟨C.1, C.2.1, C.2.2.1, C.2.2.2.2.1, C.2.2.2.2.2.1⟩ hC ⟨hb, hm.2.2, C.2.2.2.2.2.1 _ hm.2.1⟩ ⟨PP_blind, fun U hU hWm => ⟨rfl, hok, ?_, KK.moved hWm.alike C.2.2.2.2.2.2.2.2.1⟩⟩ rfl (by simpa using hn) hlsz ?_ (lv_room (cats_ok _ hrest)) hd hcells
  · rw [hU]
    exact ⟨by omega, hW.2.1, hW.2.2⟩
  · show st.map (cv g.2.2.2) = _
    rw [hst0]
    simp [cv, va_rf]
end EN
