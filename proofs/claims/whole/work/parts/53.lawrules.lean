/-! ===== the law ===== -/
def R_law : String := "BannedRowsLaw"
def lw_P (b : Addr) (xs : List Int32) (args : Array Value) (s : State) : Prop := args = #[.ref b] ∧ s.IntsAt b xs ∧ xs.length ≤ 2048 ∧ (Jvm.Cond.and given_1 narrow_1).before args s = true
def lw_Q (_ : Array Value) (s : State) (o : Outcome) (t : State) : Prop := o = .returned (some (.int 1)) ∧ Framed s o t [] 600000 7302250
def lw_Z (below : List Frame) (a : Array Value) (s : State) : State → Prop := fun t => ∃ o, t.status = .running ∧ Ended t below o ∧ lw_Q a s o t
/-- the law's own end, with 1 on the stack, nothing written that was there before, its room as the claim has it -/
theorem lw_ret {p : Program} {l : Launch} {e : Env} {s : State} {m : MethodId} {below : List Frame} {meth : Method} {c : Code} {b : Nat} (hx : p.tables.exec = Jvm.exec) (hb : c.code = code) (hr : meth.sig.returnType = ret) (hlocks : meth.locks = false) {pc : Nat} {H : Heap} {ls : Array Slot} (hdg : decode code pc = .ok (.ireturn, 1)) : W p l e room_1 s m #[Value.ref b] below meth c H [] 600000 7302250 (lw_Z below #[Value.ref b] s) (F0 m pc ls [.int 1]) := by
  intro T hT X
  obtain ⟨fs, hret, hrun, hended, hW, hframe⟩ := X.leave (v := some (.int 1)) (hlocks := hlocks) (fun h => by rw [hr] at h; cases h)
  have hmeth' : T.vm.method? m = some meth := X.method'
  refine ⟨T.setFrames fs, ?_, .returned (some (.int 1)), hrun, hended, rfl, ⟨_, rfl⟩, hW, hframe⟩
  jvm_step X.here [X.here.top, hx, hb, hdg, hmeth', hr, ret, narrow_b1]
  (try refine ⟨rfl, ?_⟩); (try refine ⟨rfl, ?_⟩)
  first | (intro acts; rw [hret _ acts rfl rfl rfl]) | rw [hret _ _ rfl rfl rfl]
  exact Steps.refl _
/-- what holds at the law's entry: the machine, the code, the tables' words (any of lw_tbl by 'hts w (by decide +kernel)'), the script of L ints xs at the cell b, what the Statement gives of the start (any of its parts by flat_of_before) -/
def lw_At (p : Program) (s : State) (m : MethodId) (meth : Method) (c : Code) (b L : Nat) (xs : Nat → Int32) : Prop :=
  p.tables.exec = Jvm.exec ∧ c.code = code ∧ meth.sig.returnType = ret ∧ c.maxLocals = 4 ∧ s.vm.findClass R_law = some m.cls ∧ (∀ w ∈ lw_tbl, w.before #[Value.ref b] s = true) ∧ va_X b L xs s s.heap ∧ b < s.heap.size ∧ meth.locks = false ∧ (Jvm.Cond.and given_1 narrow_1).before #[Value.ref b] s = true

abbrev LQ : Type := Nat × Nat × (Nat → Int32)
def oldL (B nL : Nat) (ls : List (Option AV)) : List (Nat × Value) := (List.range nL).filterMap (fun j => match ls[j]? with | some (some b) => some (j, cv B b) | _ => none)
def Ll (g : GL) (P : LQ) (s : State) (args : Array Value) (lsm : Array Slot) (nL : Nat) (ls : List (Option AV)) : Prop := lsm.size = nL ∧ ls.length = nL ∧ lv_wf lsm ∧ (∀ (i : Nat) (a : AV), ls[i]? = some (some a) → lsm[i]? = some (Slot.val (cv g.2.2.2 a)) ∧ okV a) ∧ lsm[0]? = some (Slot.val (.ref P.1)) ∧ va_X P.1 P.2.1 P.2.2 s s.heap ∧ P.1 < s.heap.size ∧ g.2.2.2 = s.heap.size ∧ args = #[Value.ref P.1] ∧ P.2.1 ≤ 2048
def Cl (g : GL) (M : MD) (p : Program) (s : State) (m : MethodId) (args : Array Value) (meth : Method) (c : Code) : Prop :=
  p.tables.exec = Jvm.exec ∧ c.code = M.2.1 ∧ c.maxLocals = M.2.2.1 ∧ meth.sig.returnType = M.2.2.2.1 ∧ s.vm.findClass M.1.cls = some m.cls ∧ (∀ w ∈ gw_tbl, w.before args s = true) ∧ meth.locks = false ∧ True ∧ KK g s ∧ g.2.2.2 ≤ s.heap.size
def Wl (g : GL) (M : MD) (kc ks pc : Nat) (ls : List (Option AV)) (st : List AV) (h : AH) (P : LQ) : Prop :=
  ∀ (p : Program) (e : Env) (s : State) (m : MethodId) (args : Array Value) (below : List Frame) (meth : Method) (c : Code) (H : Heap) (locs : List Loc) (lsm : Array Slot),
    Cl g M p s m args meth c → World g h s.heap.size kc H → va_S (fun q => g.2.2.2 ≤ q) s.heap H locs → Ll g P s args lsm M.2.2.1 ls → (∀ a ∈ st, okV a) →
    W p g.1 e M.2.2.2.2 s m args below meth c H locs kc ks (lw_Z below args s) (F0 m pc lsm (st.map (cv g.2.2.2)))
theorem Ll.lh {g : GL} {P : LQ} {s : State} {args : Array Value} {lsm : Array Slot} {nL : Nat} {ls : List (Option AV)} (h : Ll g P s args lsm nL ls) : Lh g.2.2.2 lsm nL ls := ⟨h.1, h.2.1, h.2.2.1, h.2.2.2.1⟩
theorem Ll.has {g : GL} {P : LQ} {s : State} {args : Array Value} {lsm : Array Slot} {nL : Nat} {ls : List (Option AV)} (h : Ll g P s args lsm nL ls) : lv_has lsm nL ((0, Value.ref P.1) :: oldL g.2.2.2 nL ls) := by
  have h1 := h.lh.has
  refine ⟨h1.1, h1.2.1, fun q hq => ?_⟩
  rcases List.mem_cons.mp hq with e | e
  · rw [e]; exact h.2.2.2.2.1
  · exact h1.2.2 q e
theorem Ll.set {g : GL} {P : LQ} {s : State} {args : Array Value} {lsm lsm' : Array Slot} {nL : Nat} {ls : List (Option AV)} {i : Nat} {a : AV} (h : Ll g P s args lsm nL ls) (ha : okV a) (hi : i ≠ 0) (hz : ∀ b, i ≠ 0 → ls[i - 1]? = some (some b) → catA b = 1) (lv' : List (Nat × Value)) (hl' : (i, cv g.2.2.2 a) :: ((0, Value.ref P.1) :: oldL g.2.2.2 nL ls).filter (fun q => !(q.1 == i) && !(q.1 + 1 == i && q.2.category == 2)) = lv') (h2 : lv_has lsm' nL lv') : Ll g P s args lsm' nL (ls.set i (some a)) := by
  have h3 := h.lh.set ha hz _ rfl (lsm' := lsm') ⟨h2.1, h2.2.1, fun q hq => h2.2.2 q (by
    rw [← hl']
    rcases List.mem_cons.mp hq with e | e
    · rw [e]; exact List.mem_cons_self
    · refine List.mem_cons_of_mem _ ?_
      have := List.mem_filter.mp e
      exact List.mem_filter.mpr ⟨List.mem_cons_of_mem _ this.1, this.2⟩)⟩
  refine ⟨h3.1, h3.2.1, h3.2.2.1, h3.2.2.2, ?_, h.2.2.2.2.2⟩
  refine h2.2.2 (0, Value.ref P.1) ?_
  rw [← hl']
  refine List.mem_cons_of_mem _ (List.mem_filter.mpr ⟨List.mem_cons_self, ?_⟩)
  have e1 : ((0 : Nat) == i) = false := by simp; omega
  simp [e1, Value.category]
theorem CBl_use {g : GL} {M M' : MD} {idx n : Nat} (b : CB M idx M' n) {p : Program} {s : State} {m : MethodId} {args : Array Value} {meth : Method} {c : Code} (C : Cl g M p s m args meth c) : CallB M.2.2.2.2 s args M.1.cls idx M'.1 M'.2.1 M'.2.2.1 M'.2.2.2.1 (wsM M') M'.2.2.2.2 M'.2.2.2.2.cells M'.2.2.2.2.slots n :=
  callB_of n C.2.2.2.2.2.1 (good_ws b.2.2.1) rfl rfl rfl (C.2.2.2.2.2.1 _ b.2.1) (C.2.2.2.2.2.1 _ b.1) b.2.2.2.1 b.2.2.2.2
section LRU
variable {g : GL} {M : MD} {kc ks pc q : Nat} {ls : List (Option AV)} {st : List AV} {h : AH} {P : LQ}

theorem y_st {ls' : List (Option AV)} {st' : List AV} {h' : AH} (k : Wl g M kc ks q ls' st' h' P) (e1 : ls' = ls) (e2 : st' = st) (e3 : h' = h) : Wl g M kc ks q ls st h P := by
  subst e1; subst e2; subst e3; exact k
theorem y_ic {n : Int} (hd : decode M.2.1 pc = .ok (.iconst n, 1)) (hq : pc + 1 = q) (hr : inIb n = true) (k : Wl g M kc ks q ls (aI n :: st) h P) : Wl g M kc ks pc ls st h P := by
  intro p e s m args below meth c H locs lsm C hW hS hL hst
  subst hq
  exact lv_iconst C.1 C.2.1 hd rfl (k p e s m args below meth c H locs lsm C hW hS hL (okc (inI_b hr) hst))
theorem y_bi {n : Int} (hd : decode M.2.1 pc = .ok (.bipush n, 2)) (hq : pc + 2 = q) (hr : (decide (-128 ≤ n) && decide (n < 128)) = true) (k : Wl g M kc ks q ls (aI n :: st) h P) : Wl g M kc ks pc ls st h P := by
  intro p e s m args below meth c H locs lsm C hW hS hL hst
  subst hq
  simp only [Bool.and_eq_true, decide_eq_true_eq] at hr
  exact lv_bipush C.1 C.2.1 hd (bi_v hr.1 hr.2) (k p e s m args below meth c H locs lsm C hW hS hL (okc (show inI n from ⟨by omega, by omega⟩) hst))
theorem y_il_n {k : Fin 4} {z : Int} (hd : decode M.2.1 pc = .ok (.iload_n k, 1)) (hq : pc + 1 = q) (hl : ls[(k : Nat)]? = some (some (aI z))) (kk : Wl g M kc ks q ls (aI z :: st) h P) : Wl g M kc ks pc ls st h P := by
  intro p e s m args below meth c H locs lsm C hW hS hL hst
  subst hq
  exact lv_iload_n C.1 C.2.1 hd rfl (hL.2.2.2.1 _ _ hl).1 (kk p e s m args below meth c H locs lsm C hW hS hL (okc (hL.2.2.2.1 _ _ hl).2 hst))
theorem y_al_n {k : Fin 4} {z : Nat} (hd : decode M.2.1 pc = .ok (.aload_n k, 1)) (hq : pc + 1 = q) (hl : ls[(k : Nat)]? = some (some (aR z))) (kk : Wl g M kc ks q ls (aR z :: st) h P) : Wl g M kc ks pc ls st h P := by
  intro p e s m args below meth c H locs lsm C hW hS hL hst
  subst hq
  exact lv_aload_n C.1 C.2.1 hd rfl (hL.2.2.2.1 _ _ hl).1 (kk p e s m args below meth c H locs lsm C hW hS hL (okc (hL.2.2.2.1 _ _ hl).2 hst))
theorem y_sub {a b : Int} (hd : decode M.2.1 pc = .ok (.isub, 1)) (hq : pc + 1 = q) (hr : inI (a - b)) (kk : Wl g M kc ks q ls (aI (a - b) :: st) h P) : Wl g M kc ks pc ls (aI b :: aI a :: st) h P := by
  intro p e s m args below meth c H locs lsm C hW hS hL hst
  subst hq
  refine lv_isub C.1 C.2.1 hd ?_
  rw [← Int32.ofInt_sub]
  exact kk p e s m args below meth c H locs lsm C hW hS hL (okc hr (okt (okt hst)))
theorem y_andG {a b : Int} (hd : decode M.2.1 pc = .ok (.iand, 1)) (hq : pc + 1 = q) (kk : Wl g M kc ks q ls (aI (Int32.ofInt a &&& Int32.ofInt b).toInt :: st) h P) : Wl g M kc ks pc ls (aI b :: aI a :: st) h P := by
  intro p e s m args below meth c H locs lsm C hW hS hL hst
  subst hq
  refine lv_iand C.1 C.2.1 hd ?_
  rw [← ofInt_toInt32 (Int32.ofInt a &&& Int32.ofInt b)]
  exact kk p e s m args below meth c H locs lsm C hW hS hL (okc (inI_toInt _) (okt (okt hst)))
theorem y_dup {a : AV} (hd : decode M.2.1 pc = .ok (.dup, 1)) (hq : pc + 1 = q) (hc : catA a = 1) (kk : Wl g M kc ks q ls (a :: a :: st) h P) : Wl g M kc ks pc ls (a :: st) h P := by
  intro p e s m args below meth c H locs lsm C hW hS hL hst
  subst hq
  exact lv_dup C.1 C.2.1 hd (cv_cat1 hc) (kk p e s m args below meth c H locs lsm C hW hS hL (okc (okh hst) hst))
theorem y_goto {off : Int} {t : Nat} (hd : decode M.2.1 pc = .ok (.goto off, 3)) (ht : (pc : Int) + off = (t : Int)) (kk : Wl g M kc ks t ls st h P) : Wl g M kc ks pc ls st h P := by
  intro p e s m args below meth c H locs lsm C hW hS hL hst
  exact lv_goto C.1 C.2.1 hd ht (kk p e s m args below meth c H locs lsm C hW hS hL hst)
theorem y_ic_eq {a b : Int} {off : Int} {t : Nat} (hd : decode M.2.1 pc = .ok (.if_icmp .eq off, 3)) (ht : (pc : Int) + off = (t : Int)) (hq : pc + 3 = q) (kt : a = b → Wl g M kc ks t ls st h P) (kf : ¬ a = b → Wl g M kc ks q ls st h P) : Wl g M kc ks pc ls (aI b :: aI a :: st) h P := by
  intro p e s m args below meth c H locs lsm C hW hS hL hst
  subst hq
  have hb : inI b := okh hst
  have ha : inI a := okh (okt hst)
  have kt0 := fun hc => kt hc p e s m args below meth c H locs lsm C hW hS hL (okt (okt hst))
  have kf0 := fun hc => kf hc p e s m args below meth c H locs lsm C hW hS hL (okt (okt hst))
  exact lv_icmp_eq C.1 C.2.1 hd ht (fun hc => kt0 ((ci_eq ha hb).mp hc)) (fun hc => kf0 (fun hx => hc ((ci_eq ha hb).mpr hx)))
theorem y_ic_gt {a b : Int} {off : Int} {t : Nat} (hd : decode M.2.1 pc = .ok (.if_icmp .gt off, 3)) (ht : (pc : Int) + off = (t : Int)) (hq : pc + 3 = q) (kt : b < a → Wl g M kc ks t ls st h P) (kf : ¬ b < a → Wl g M kc ks q ls st h P) : Wl g M kc ks pc ls (aI b :: aI a :: st) h P := by
  intro p e s m args below meth c H locs lsm C hW hS hL hst
  subst hq
  have hb : inI b := okh hst
  have ha : inI a := okh (okt hst)
  have kt0 := fun hc => kt hc p e s m args below meth c H locs lsm C hW hS hL (okt (okt hst))
  have kf0 := fun hc => kf hc p e s m args below meth c H locs lsm C hW hS hL (okt (okt hst))
  exact lv_icmp_gt C.1 C.2.1 hd ht (fun hc => kt0 ((ci_lt hb ha).mp hc)) (fun hc => kf0 (fun hx => hc ((ci_lt hb ha).mpr hx)))
theorem y_tabI {a : Int} {dflt lo hi : Int} {offs : Array Int} {len : Nat} {off : Int} {t : Nat} (hd : decode M.2.1 pc = .ok (.tableswitch dflt lo hi offs, len)) (h1 : ¬ a < lo) (h2 : ¬ hi < a) (ho : offs[(a - lo).toNat]? = some off) (ht : (pc : Int) + off = (t : Int)) (kk : Wl g M kc ks t ls st h P) : Wl g M kc ks pc ls (aI a :: st) h P := by
  intro p e s m args below meth c H locs lsm C hW hS hL hst
  have ha : inI a := okh hst
  exact lv_tableIn C.1 C.2.1 hd (by rw [ti ha]; exact h1) (by rw [ti ha]; exact h2) (by rw [ti ha]; exact ho) ht (kk p e s m args below meth c H locs lsm C hW hS hL (okt hst))
theorem y_tabO {a : Int} {dflt lo hi : Int} {offs : Array Int} {len : Nat} {t : Nat} (hd : decode M.2.1 pc = .ok (.tableswitch dflt lo hi offs, len)) (h1 : a < lo ∨ hi < a) (ht : (pc : Int) + dflt = (t : Int)) (kk : Wl g M kc ks t ls st h P) : Wl g M kc ks pc ls (aI a :: st) h P := by
  intro p e s m args below meth c H locs lsm C hW hS hL hst
  have ha : inI a := okh hst
  exact lv_tableOut C.1 C.2.1 hd (by rw [ti ha]; exact h1) ht (kk p e s m args below meth c H locs lsm C hW hS hL (okt hst))
theorem y_run {M' : MD} {as rest : List AV} {P' : PT} (hq : pc + 3 = q)
    (hr : ∀ (p : Program) (e : Env) (s : State) (m : MethodId) (args : Array Value) (below : List Frame) (meth : Method) (c : Code) (H : Heap) (locs : List Loc) (lsm : Array Slot), Cl g M p s m args meth c → World g h s.heap.size kc H → H.size = g.2.2.2 + h.1.length → lsm.size = M.2.2.1 → (∀ a ∈ as, okV a) → va_Run p g.1 e M.2.2.2.2 s m args below meth c H locs kc ks M'.2.2.2.2.cells M'.2.2.2.2.slots (F0 m pc lsm (st.map (cv g.2.2.2))) (rest.map (cv g.2.2.2)) (QQ g M' P' ((as.map (cv g.2.2.2)).toArray)) (fun q => g.2.2.2 ≤ q))
    (hst0 : st = as.reverse ++ rest)
    (kk : ∀ r h', P' r h' → Wl g M (kc + M'.2.2.2.2.cells) (ks + M'.2.2.2.2.slots) q ls (r.toList ++ rest) h' P) : Wl g M kc ks pc ls st h P := by
  intro p e s m args below meth c H locs lsm C hW hS hL hst
  subst hq
  intro T hT X
  subst hT
  have hsz := size_at X C.2.2.2.2.2.2.2.2.2 hW hS
  have hokA : ∀ a ∈ as, okV a := fun a ha => hst a (by rw [hst0]; exact List.mem_append_left _ (List.mem_reverse.mpr ha))
  have hokR : ∀ a ∈ rest, okV a := fun a ha => hst a (by rw [hst0]; exact List.mem_append_right _ ha)
  obtain ⟨v0, st₀, t, T', L, h0, X', hLL, e1, e2, ⟨⟨r, h', c1, c2, c3, c4, c5⟩, hz, hkp⟩, stp⟩ := hr p e s m args below meth c T.heap locs lsm C hW hsz hL.1 hokA T rfl X
  have hv : v0 = r.map (cv g.2.2.2) := by injection c1
  subst hv
  rw [h0] at hz hkp c4
  have hW1 : World g h' s.heap.size (kc + M'.2.2.2.2.cells) T'.heap := by
    refine ⟨?_, by rw [e1]; exact c4.2.1, c4.2.2⟩
    have a1 := c4.1
    have a2 := hW.1
    omega
  have hS1 : va_S (fun q => g.2.2.2 ≤ q) s.heap T'.heap (locs ++ L) := by
    refine ⟨Nat.le_trans hS.1 (by rw [e1]; exact hz), fun q h1 h2 => ?_, fun q hq => ?_⟩
    · rw [e1, hkp q (Nat.lt_of_lt_of_le h1 hS.1) h2]
      exact hS.2.1 q h1 h2
    · rcases List.mem_append.mp hq with h | h
      · exact hS.2.2 q h
      · exact hLL q h
  obtain ⟨t2, a1, b1⟩ := kk r h' c3 p e s m args below meth c T'.heap (locs ++ L) lsm C hW1 hS1 hL (by
    intro a ha
    rcases List.mem_append.mp ha with h | h
    · cases r with
      | none => cases h
      | some b =>
        have : a = b := by simpa using h
        subst this
        exact c2 a rfl
    · exact hokR a h) T' rfl X'
  refine ⟨t2, stp t2 ?_, b1⟩
  rw [List.map_append] at a1
  have e3 : (r.map (cv g.2.2.2)).toList = r.toList.map (cv g.2.2.2) := by cases r <;> rfl
  rw [e3]
  exact a1
theorem y_callV {M' : MD} {idx n b ci N : Nat} {as rest : List AV} {P' : PT} (hd : decode M.2.1 pc = .ok (.invokevirtual idx, 3)) (hq : pc + 3 = q) (hm : CLV M idx M' n) (hC : Cv g M' (aR b :: as) h P') (hst0 : st = (aR b :: as).reverse ++ rest) (hn : as.length = n) (hc : h.1[b]? = some (ci + 3, N)) (h8 : ci < 8) (hcn : CNn ci = M'.1.cls) (hrest : (rest.map catA).sum ≤ 8) (hcells : kc + M'.2.2.2.2.cells ≤ M.2.2.2.2.cells ∧ ks + M'.2.2.2.2.slots ≤ M.2.2.2.2.slots)
    (kk : ∀ r h', P' r h' → Wl g M (kc + M'.2.2.2.2.cells) (ks + M'.2.2.2.2.slots) q ls (r.toList ++ rest) h' P) : Wl g M kc ks pc ls st h P := by
  refine y_run (M' := M') (as := aR b :: as) (rest := rest) (P' := P') hq ?_ hst0 kk
  intro p e s m args below meth c H locs lsm C hW hsz hlsz hok
  have hat := wsH_at g.2.2.1 g.2.2.2 h hc
  have hrecv := va_recv (q := (CNn ci, FTn ci, NFn ci)) C.2.2.2.2.2.2.2.2.1.1 hW.2.1 (cl_at ci h8) hat
  have hrecv : ∃ cell : Cell, H[g.2.2.2 + b]? = some cell ∧ cell.vm.isStatics = false ∧ s.vm.findClass M'.1.cls = some cell.cls := by rw [← hcn]; exact hrecv
  refine va_runV (C := M'.1.cls) (b := g.2.2.2 + b) (As := as.map (cv g.2.2.2)) ⟨C.1, C.2.1, C.2.2.1, C.2.2.2.2.1, C.2.2.2.2.2.1⟩ hC ⟨CBl_use hm.1 C, C.2.2.2.2.2.1 _ hm.2.1, C.2.2.2.2.2.1 _ hm.2.2⟩ ⟨PP_blind, hrecv, fun U hU hWm => ⟨rfl, hok, ?_, KK.moved hWm.alike C.2.2.2.2.2.2.2.2.1⟩⟩ rfl (by simpa using hn) hlsz ?_ (lv_room (cats_ok _ hrest)) hd hcells
  · rw [hU]
    exact ⟨by omega, hW.2.1, hW.2.2⟩
  · show st.map (cv g.2.2.2) = _
    rw [hst0]
    simp [cv, va_rf]
theorem y_callI {M' : MD} {idx n b : Nat} {as rest : List AV} {P' : PT} (hd : decode M.2.1 pc = .ok (.invokespecial idx, 3)) (hq : pc + 3 = q) (hm : CLI M idx M' n) (hret : M'.2.2.2.1 = none) (hC : Cv g M' (aR b :: as) h P') (hst0 : st = (aR b :: as).reverse ++ rest) (hn : as.length = n) (hrest : (rest.map catA).sum ≤ 8) (hcells : kc + M'.2.2.2.2.cells ≤ M.2.2.2.2.cells ∧ ks + M'.2.2.2.2.slots ≤ M.2.2.2.2.slots)
    (kk : ∀ r h', P' r h' → Wl g M (kc + M'.2.2.2.2.cells) (ks + M'.2.2.2.2.slots) q ls (r.toList ++ rest) h' P) : Wl g M kc ks pc ls st h P := by
  refine y_run (M' := M') (as := aR b :: as) (rest := rest) (P' := P') hq ?_ hst0 kk
  intro p e s m args below meth c H locs lsm C hW hsz hlsz hok
  have hb := CBl_use hm.1 C
  rw [hret] at hb
  refine va_runI (b := g.2.2.2 + b) (As := as.map (cv g.2.2.2)) ⟨C.1, C.2.1, C.2.2.1, C.2.2.2.2.1, C.2.2.2.2.2.1⟩ hC ⟨hb, hm.2.2, C.2.2.2.2.2.1 _ hm.2.1⟩ ⟨PP_blind, fun U hU hWm => ⟨rfl, hok, ?_, KK.moved hWm.alike C.2.2.2.2.2.2.2.2.1⟩⟩ rfl (by simpa using hn) hlsz ?_ (lv_room (cats_ok _ hrest)) hd hcells
  · rw [hU]
    exact ⟨by omega, hW.2.1, hW.2.2⟩
  · show st.map (cv g.2.2.2) = _
    rw [hst0]
    simp [cv, va_rf]
theorem y_V {M' : MD} {idx n b ci N : Nat} {as rest : List AV} {P' : PT} (hd : decode M.2.1 pc = .ok (.invokevirtual idx, 3)) (hq : pc + 3 = q) (hm : CLV M idx M' n) (hC : Cv g M' (aR b :: as) h P') (hst0 : st = (aR b :: as).reverse ++ rest) (hn : as.length = n) (hc : h.1[b]? = some (ci + 3, N)) (h8 : ci < 8) (hcn : CNn ci = M'.1.cls) (hrest : (rest.map catA).sum ≤ 8) (hz : M'.2.2.2.2.cells = 0 ∧ M'.2.2.2.2.slots = 0) (hcells : kc ≤ M.2.2.2.2.cells ∧ ks ≤ M.2.2.2.2.slots)
    (kk : ∀ r h', P' r h' → Wl g M kc ks q ls (r.toList ++ rest) h' P) : Wl g M kc ks pc ls st h P := by
  refine y_callV hd hq hm hC hst0 hn hc h8 hcn hrest (by rw [hz.1, hz.2]; exact hcells) ?_
  rw [hz.1, hz.2]
  exact kk
theorem y_as_n {k : Fin 4} {i : Nat} {z : Nat} (hd : decode M.2.1 pc = .ok (.astore_n k, 1)) (hi : (k : Nat) = i) (hi0 : i ≠ 0) (hq : pc + 1 = q) (hn : i < ls.length) (hz : ∀ b, i ≠ 0 → ls[i - 1]? = some (some b) → catA b = 1) (kk : Wl g M kc ks q (ls.set i (some (aR z))) st h P) : Wl g M kc ks pc ls (aR z :: st) h P := by
  intro p e s m args below meth c H locs lsm C hW hS hL hst
  subst hq
  exact lv_astore_n C.1 C.2.1 hd hi hL.has (by rw [← hL.2.1]; exact hn) rfl (fun ls2 h2 => kk p e s m args below meth c H locs ls2 C hW hS (hL.set (a := aR z) (okh hst) hi0 hz _ rfl h2) (okt hst))
theorem y_is_n {k : Fin 4} {i : Nat} {z : Int} (hd : decode M.2.1 pc = .ok (.istore_n k, 1)) (hi : (k : Nat) = i) (hi0 : i ≠ 0) (hq : pc + 1 = q) (hn : i < ls.length) (hz : ∀ b, i ≠ 0 → ls[i - 1]? = some (some b) → catA b = 1) (kk : Wl g M kc ks q (ls.set i (some (aI z))) st h P) : Wl g M kc ks pc ls (aI z :: st) h P := by
  intro p e s m args below meth c H locs lsm C hW hS hL hst
  subst hq
  exact lv_istore_n C.1 C.2.1 hd hi hL.has (by rw [← hL.2.1]; exact hn) rfl (fun ls2 h2 => kk p e s m args below meth c H locs ls2 C hW hS (hL.set (a := aI z) (okh hst) hi0 hz _ rfl h2) (okt hst))
theorem y_ii {i : Nat} {n z : Int} (hd : decode M.2.1 pc = .ok (.iinc i n, 3)) (hi0 : i ≠ 0) (hq : pc + 3 = q) (hl : ls[i]? = some (some (aI z))) (hr : inI (z + n)) (hz : ∀ b, i ≠ 0 → ls[i - 1]? = some (some b) → catA b = 1) (kk : Wl g M kc ks q (ls.set i (some (aI (z + n)))) st h P) : Wl g M kc ks pc ls st h P := by
  intro p e s m args below meth c H locs lsm C hW hS hL hst
  subst hq
  have hn : i < M.2.2.1 := by rw [← hL.2.1]; exact (List.getElem?_eq_some_iff.mp hl).1
  have hmem : (i, cv g.2.2.2 (aI z)) ∈ ((0, Value.ref P.1) :: oldL g.2.2.2 M.2.2.1 ls) := List.mem_cons_of_mem _ (List.mem_filterMap.mpr ⟨i, List.mem_range.mpr hn, by rw [hl]⟩)
  obtain ⟨kk0, hk0⟩ := List.getElem?_of_mem hmem
  exact lv_iinc C.1 C.2.1 hd hL.has (k := kk0) (x := Int32.ofInt z) (v := Int32.ofInt (z + n)) hk0 (Int32.ofInt_add z n).symm hn rfl (fun ls2 h2 => kk p e s m args below meth c H locs ls2 C hW hS (hL.set (a := aI (z + n)) hr hi0 hz _ rfl h2) hst)
/-- a place of the script -/
theorem y_scr0 {i : Nat} (d0 : decode M.2.1 pc = .ok (.aload_n 0, 1)) (d1 : decode M.2.1 (pc + 1) = .ok (.iload_n 3, 1)) (d2 : decode M.2.1 (pc + 1 + 1) = .ok (.iaload, 1)) (hq : pc + 1 + 1 + 1 = q) (hl : ls[3]? = some (some (aI (i : Int)))) (hi : i < P.2.1) (kk : Wl g M kc ks q ls (aI (P.2.2 i).toInt :: st) h P) : Wl g M kc ks pc ls st h P := by
  intro p e s m args below meth c H locs lsm C hW hS hL hst
  subst hq
  obtain ⟨l1, l2, l3, l4, l5, l6, l7, l8, l9, l10⟩ := id hL
  have hii : inI (i : Int) := ⟨by omega, by omega⟩
  refine lv_aload_n C.1 C.2.1 d0 rfl l5 (lv_iload_n C.1 C.2.1 d1 rfl (l4 3 (aI (i : Int)) hl).1 (va_sld (A := fun q => g.2.2.2 ≤ q) C.1 C.2.1 l6 l7 (by show ¬ g.2.2.2 ≤ P.1; omega) hS (ci_ix (by omega) (by omega) hii) d2 ?_))
  rw [ci_cl hii, Int.toNat_natCast, ← ofInt_toInt32 (P.2.2 i)]
  have := kk p e s m args below meth c H locs lsm C hW hS hL (okc (inI_toInt _) hst)
  exact this
theorem y_scr {i : Nat} {n : Nat} (d0 : decode M.2.1 pc = .ok (.aload_n 0, 1)) (d1 : decode M.2.1 (pc + 1) = .ok (.iload_n 3, 1)) (d2 : decode M.2.1 (pc + 1 + 1) = .ok (.iconst (n : Int), 1)) (d3 : decode M.2.1 (pc + 1 + 1 + 1) = .ok (.iadd, 1)) (d4 : decode M.2.1 (pc + 1 + 1 + 1 + 1) = .ok (.iaload, 1)) (hq : pc + 1 + 1 + 1 + 1 + 1 = q) (hl : ls[3]? = some (some (aI (i : Int)))) (hi : i + n < P.2.1) (kk : Wl g M kc ks q ls (aI (P.2.2 (i + n)).toInt :: st) h P) : Wl g M kc ks pc ls st h P := by
  intro p e s m args below meth c H locs lsm C hW hS hL hst
  subst hq
  obtain ⟨l1, l2, l3, l4, l5, l6, l7, l8, l9, l10⟩ := id hL
  have hii : inI ((i : Int) + (n : Int)) := ⟨by omega, by omega⟩
  refine lv_aload_n C.1 C.2.1 d0 rfl l5 (lv_iload_n C.1 C.2.1 d1 rfl (l4 3 (aI (i : Int)) hl).1 (lv_iconst (v := Int32.ofInt (n : Int)) C.1 C.2.1 d2 rfl (lv_iadd C.1 C.2.1 d3 ?_)))
  rw [← Int32.ofInt_add]
  refine va_sld (A := fun q => g.2.2.2 ≤ q) C.1 C.2.1 l6 l7 (by show ¬ g.2.2.2 ≤ P.1; omega) hS (ci_ix (by omega) (by omega) hii) d4 ?_
  rw [ci_cl hii, show ((i : Int) + (n : Int)).toNat = i + n by omega, ← ofInt_toInt32 (P.2.2 (i + n))]
  exact kk p e s m args below meth c H locs lsm C hW hS hL (okc (inI_toInt _) hst)
theorem y_len (d0 : decode M.2.1 pc = .ok (.aload_n 0, 1)) (d1 : decode M.2.1 (pc + 1) = .ok (.arraylength, 1)) (hq : pc + 1 + 1 = q) (kk : Wl g M kc ks q ls (aI (P.2.1 : Int) :: st) h P) : Wl g M kc ks pc ls st h P := by
  intro p e s m args below meth c H locs lsm C hW hS hL hst
  subst hq
  obtain ⟨l1, l2, l3, l4, l5, l6, l7, l8, l9, l10⟩ := id hL
  refine lv_aload_n C.1 C.2.1 d0 rfl l5 (va_slen (A := fun q => g.2.2.2 ≤ q) C.1 C.2.1 l6 l7 (by show ¬ g.2.2.2 ≤ P.1; omega) hS d1 ?_)
  rw [← Int32.ofInt_eq_ofNat]
  exact kk p e s m args below meth c H locs lsm C hW hS hL (okc (show inI (P.2.1 : Int) from ⟨by omega, by omega⟩) hst)
end LRU
section LRV
variable {g : GL} {M : MD} {kc ks pc q : Nat} {ls : List (Option AV)} {st : List AV} {sh : List (Nat × Nat)} {rf : Nat → Nat → Option Nat} {v : Nat → Nat → Int} {P : LQ}

theorem ymake_core {kl : Nat × Nat} {ks' : Nat} (kk : Wl g M (kc + 1) ks' q ls (aR sh.length :: st) (mkH sh rf v kl) P) {p : Program} {e : Env} {s : State} {m : MethodId} {args : Array Value} {below : List Frame} {meth : Method} {c : Code} {H : Heap} {locs : List Loc} {lsm : Array Slot} (C : Cl g M p s m args meth c) (hW : World g (sh, rf, v) s.heap.size kc H) (hL : Ll g P s args lsm M.2.2.1 ls) (hst : ∀ a ∈ st, okV a) {x : Nat} {H1 : Heap} (hP1 : va_P g.2.1 vwCl (wsH g.2.2.1 g.2.2.2 (sh, rf, v) ++ [(x, wcell g.2.2.1 g.2.2.2 kl (fun _ => none) (fun _ => 0))]) H1) (hD1 : va_D (fun q => g.2.2.2 ≤ q) (wsH g.2.2.1 g.2.2.2 (sh, rf, v) ++ [(x, wcell g.2.2.1 g.2.2.2 kl (fun _ => none) (fun _ => 0))])) (hS1 : va_S (fun q => g.2.2.2 ≤ q) s.heap H1 locs) :
    W p g.1 e M.2.2.2.2 s m args below meth c H1 locs (kc + 1) ks' (lw_Z below args s) (F0 m q lsm (.ref x :: st.map (cv g.2.2.2))) := by
  intro T hT X
  subst hT
  have hlen : (wsH g.2.2.1 g.2.2.2 (sh, rf, v)).length = sh.length := by unfold wsH; simp
  have hat : (wsH g.2.2.1 g.2.2.2 (sh, rf, v) ++ [(x, wcell g.2.2.1 g.2.2.2 kl (fun _ => none) (fun _ => 0))])[sh.length]? = some (x, wcell g.2.2.1 g.2.2.2 kl (fun _ => none) (fun _ => 0)) := by
    rw [List.getElem?_append_right (by rw [hlen]; exact Nat.le_refl _), hlen, Nat.sub_self]; rfl
  have h1 := (hP1 _ _ hat).lt
  have h2 : g.2.2.2 ≤ x := hD1.2 _ _ hat
  have h3 := X.heapSize
  have h4 := hW.1
  dsimp only at h1 h4
  have hx : x = g.2.2.2 + sh.length := by
    rcases Nat.lt_or_ge x (g.2.2.2 + sh.length) with hlt | hge
    · have hc : sh[x - g.2.2.2]? = some sh[x - g.2.2.2] := List.getElem?_eq_getElem (by omega)
      have ha2 := wsH_at g.2.2.1 g.2.2.2 (sh, rf, v) hc
      have ha3 : (wsH g.2.2.1 g.2.2.2 (sh, rf, v) ++ [(x, wcell g.2.2.1 g.2.2.2 kl (fun _ => none) (fun _ => 0))])[x - g.2.2.2]? = some (g.2.2.2 + (x - g.2.2.2), wcell g.2.2.1 g.2.2.2 sh[x - g.2.2.2] (rf (x - g.2.2.2)) (v (x - g.2.2.2))) := by
        rw [List.getElem?_append_left (by rw [hlen]; omega)]; exact ha2
      have := hD1.1 _ _ _ _ ha3 hat (by dsimp only; omega)
      omega
    · omega
  subst hx
  have hpush := wsH_push g.2.2.1 g.2.2.2 sh rf (upRo rf sh.length (fun _ => none)) v (upR v sh.length (fun _ => 0)) kl (fun d hd => upRo_n rf _ (by omega)) (fun d hd => upR_n v _ (by omega))
  rw [upRo_c, upR_c] at hpush
  rw [hpush] at hP1
  have hw1 : World g (mkH sh rf v kl) s.heap.size (kc + 1) T.heap := ⟨by show _ = _ + (sh ++ [kl]).length; simp; omega, hP1, upR_rng hW.2.2 (fun _ => ci_0)⟩
  exact kk p e s m args below meth c T.heap locs lsm C hw1 hS1 hL (okc trivial hst) T rfl X
theorem y_new {idx ci : Nat} (hd : decode M.2.1 pc = .ok (.new idx, 3)) (hq : pc + 3 = q) (h8 : ci < 8) (hl1 : Cond.classLink M.1.cls idx (CNn ci) ∈ gw_tbl) (hl2 : Cond.instantiable (CNn ci) (NFn ci) ∈ gw_tbl) (hl3 : Cond.initialized (CNn ci) ∈ gw_tbl) (hc1 : kc + 1 ≤ M.2.2.2.2.cells) (hc2 : ks + NFn ci ≤ M.2.2.2.2.slots) (kk : Wl g M (kc + 1) (ks + NFn ci) q ls (aR sh.length :: st) (mkH sh rf v (ci + 3, NFn ci)) P) : Wl g M kc ks pc ls st (sh, rf, v) P := by
  intro p e s m args below meth c H locs lsm C hW hS hL hst
  subst hq
  refine va_new (D := g.2.1) (cl := vwCl) (A := fun q => g.2.2.2 ≤ q) (C := CNn ci) (T := FTn ci) (N := NFn ci) (fs := (List.range (NFn ci)).map (fun j => fv g.2.2.2 ci j none 0)) C.1 C.2.1 C.2.2.2.2.2.1 (in_all ci h8) (fty ci) (ty_all ci h8) C.2.2.2.2.1 (C.2.2.2.2.2.1 _ hl1) (C.2.2.2.2.2.1 _ hl2) (C.2.2.2.2.2.1 _ hl3) C.2.2.2.2.2.2.2.2.1.1 hW.2.1 (wsH_D _ _ _) hS (fun q hq => Nat.le_trans C.2.2.2.2.2.2.2.2.2 hq) (cl_at ci h8) (fun j hj => ?_) hc1 hc2 hd (fun x H1 hP1 hD1 hS1 => ymake_core kk C hW hL hst hP1 hD1 hS1)
  have e1 := fv_list (B := g.2.2.2) (ci := ci) (r := fun _ => none) (x := fun _ => 0) hj
  unfold vp_V
  rw [List.getD, e1]
  have : ∀ ci, ci < 8 → ∀ j, j < NFn ci → defaultValue (fty ci j) = fv 0 ci j none 0 := by
    intro ci h
    rcases (show ci = 0 ∨ ci = 1 ∨ ci = 2 ∨ ci = 3 ∨ ci = 4 ∨ ci = 5 ∨ ci = 6 ∨ ci = 7 by omega) with rfl | rfl | rfl | rfl | rfl | rfl | rfl | rfl <;> decide +kernel
  exact this ci h8 j hj
end LRV
theorem y_ret {g : GL} {kc ks pc : Nat} {ls : List (Option AV)} {h : AH} {P : LQ} (hd : decode code pc = .ok (.ireturn, 1)) (h1 : kc ≤ 600000) (h2 : ks ≤ 7302250) : Wl g mL_law kc ks pc ls [aI 1] h P := by
  intro p e s m args below meth c H locs lsm C hW hS hL hst
  obtain ⟨l1, l2, l3, l4, l5, l6, l7, l8, l9, l10⟩ := hL
  subst l9
  refine va_forget (fun q hq => by have := hS.2.2 q hq; rw [← l8]; exact this) ?_
  refine W.widen (k := 600000) (n := 7302250) h1 h2 ?_
  exact lw_ret C.1 C.2.1 C.2.2.2.1 C.2.2.2.2.2.2.1 hd

