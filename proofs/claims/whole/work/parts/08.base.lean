/-! words of every method: its own code, and the law's list -/
abbrev wG (y : MethodName) (b : ByteArray) (n : Nat) (r : Option FieldType) : List Cond := Cond.code y b n r :: wsL_law
set_option maxRecDepth 100000 in
theorem wG_all : wsL_law.all goodWord = true := by decide +kernel
theorem wG_in {y : MethodName} {b : ByteArray} {n : Nat} {r : Option FieldType} (h : Cond.code y b n r ∈ wsL_law) : GoodIn wsL_law (wG y b n r) := by
  intro w hw
  have hm : w ∈ wsL_law := by
    rcases List.mem_cons.mp hw with q | q
    · rw [q]; exact h
    · exact q
  exact ⟨hm, good_of_word (List.all_eq_true.mp wG_all w hm)⟩
theorem wG_V {own C : String} {idx : Nat} {y : MethodName} {b : ByteArray} {n : Nat} {r : Option FieldType} (h1 : Cond.methodLink own idx y ∈ wsL_law) (h2 : Cond.instanceMethod y ∈ wsL_law) (h3 : Cond.selects C y y ∈ wsL_law) (h4 : Cond.initialized C ∈ wsL_law) (h5 : Cond.code y b n r ∈ wsL_law) : GoodIn wsL_law (wsV own idx C y (wG y b n r)) := by
  intro w hw
  rcases List.mem_append.mp hw with q | q
  · have hm : w ∈ wsL_law := by
      simp only [List.mem_cons, List.not_mem_nil, or_false] at q
      rcases q with q | q | q | q <;> rw [q] <;> assumption
    exact ⟨hm, good_of_word (List.all_eq_true.mp wG_all w hm)⟩
  · exact wG_in h5 w q
theorem wG_S {own : String} {idx : Nat} {y : MethodName} {b : ByteArray} {n : Nat} {r : Option FieldType} (h1 : Cond.methodLink own idx y ∈ wsL_law) (h2 : Cond.static y ∈ wsL_law) (h4 : Cond.initialized own ∈ wsL_law) (h5 : Cond.code y b n r ∈ wsL_law) : GoodIn wsL_law (wsS own idx y (wG y b n r)) := by
  intro w hw
  rcases List.mem_append.mp hw with q | q
  · have hm : w ∈ wsL_law := by
      simp only [List.mem_cons, List.not_mem_nil, or_false] at q
      rcases q with q | q | q <;> rw [q] <;> assumption
    exact ⟨hm, good_of_word (List.all_eq_true.mp wG_all w hm)⟩
  · exact wG_in h5 w q
/-! a state: int fields, long fields, rows -/
abbrev Sg : Type := (Nat → Int32) × (Nat → Int64) × (Nat → Nat → Int32)
def gI (z : Sg) (k : Nat) : Int32 := z.1 k
def gL (z : Sg) (k : Nat) : Int64 := z.2.1 k
def gA (z : Sg) (r : Nat) : Nat → Int32 := z.2.2 r
def pI (z : Sg) (k : Nat) (v : Int32) : Sg := (upd z.1 k v, z.2.1, z.2.2)
def pL (z : Sg) (k : Nat) (v : Int64) : Sg := (z.1, vp_updL z.2.1 k v, z.2.2)
def pA (z : Sg) (r i : Nat) (v : Int32) : Sg := (z.1, z.2.1, fun j => if j = r then upd (z.2.2 r) i v else z.2.2 j)
def bd {α : Type} {β : Sort _} (a : α) (F : α → β) : β := F a
theorem bd_e {α β : Type} {a : α} {F : α → β} {r : β} (h : bd a F = r) : ∃ z, z = a ∧ F z = r := ⟨a, rfl, h⟩
theorem bd_s {α : Type} {a z : α} {F : α → Prop} (e : z = a) (h : bd a F) : F z := by subst e; exact h
theorem if_t {α : Type} {c : Prop} [Decidable c] {a b r : α} (h : c) (e : (if c then a else b) = r) : a = r := by rw [if_pos h] at e; exact e
theorem if_f {α : Type} {c : Prop} [Decidable c] {a b r : α} (h : ¬ c) (e : (if c then a else b) = r) : b = r := by rw [if_neg h] at e; exact e
theorem vi_of {i M : Int32} {n : Nat} (hM : M.toInt = n) (h0 : ¬ i < 0) (h1 : i < M) : vp_in i n := by
  rw [vp_in_iff]
  rw [Int32.lt_iff_toInt_lt] at h0 h1
  have h2 : (0 : Int32).toInt = 0 := rfl
  omega
theorem vi_of2 {i M : Int32} {n : Nat} (hM : M.toInt = n) (h0 : ¬ i < 0) (h1 : ¬ M ≤ i) : vp_in i n := by
  refine vi_of hM h0 ?_
  rw [Int32.le_iff_toInt_le] at h1
  rw [Int32.lt_iff_toInt_lt]
  omega
/-! contracts over a state -/
def CPre (D : va_G) (wf : Sg → va_W) (ty : List (ClassId × FieldType)) (sz : Nat) (z : Sg) (U : State) : Prop := U.heap.size = sz ∧ va_P D vwCl (wf z) U.heap ∧ va_K D vwCl ty U ∧ va_D (fun _ => True) (wf z)
def CQ (D : va_G) (wf : Sg → va_W) (A : Nat → Prop) (res : Option Value) (z : Sg) : Array Value → State → Outcome → State → Prop := fun _ st oc t => oc = .returned res ∧ va_P D vwCl (wf z) t.heap ∧ va_F A st t
def CT (D : va_G) (wf : Sg → va_W) (ty : List (ClassId × FieldType)) (l : Launch) (y : MethodName) (ws : List Cond) (rm : Room) (av : List Value) (z : Sg) (res : Option Value) (z' : Sg) : Prop := ∀ sz : Nat, Met l y ws rm (va_Pc av (CPre D wf ty sz z)) (CQ D wf (va_A (wf z) sz) res z') 0 0 (va_A (wf z) sz)
def Wd (D : va_G) (wf : Sg → va_W) (ty : List (ClassId × FieldType)) (A : Nat → Prop) (s : State) (H : Heap) (locs : List Loc) (z : Sg) : Prop := va_P D vwCl (wf z) H ∧ va_K D vwCl ty s ∧ va_D A (wf z) ∧ va_S A s.heap H locs
theorem CT.ofW {D : va_G} {wf : Sg → va_W} {ty : List (ClassId × FieldType)} {l : Launch} {y : MethodName} {cc : ByteArray} {maxL : Nat} {ret : Option FieldType} {rm : Room} {av : List Value} {z : Sg} {res : Option Value} {z' : Sg} (hy : plainName y.cls = true) (hlen : (lg_sl av).length ≤ maxL)
    (body : ∀ (p : Program) (e : Env) (R : Room) (s : State) (m : MethodId) (args : Array Value) (below : List Frame) (meth : Method) (c : Code) (A : Nat → Prop), R = rm → CallFix p m c cc maxL s args wsL_law y.cls → meth.sig.returnType = ret → meth.locks = false → (∀ q : Nat, s.heap.size ≤ q → A q) → Wd D wf ty A s s.heap [] z → ∀ ls : Array Slot, lv_has ls maxL (lv_args 0 av) → W p l e R s m args below meth c s.heap [] 0 0 (MQ below (CQ D wf A res z') args s 0 0 A) (F0 m 0 ls [])) : CT D wf ty l y (wG y cc maxL ret) rm av z res z' := by
  intro sz
  refine Met.ofW (cc := cc) (maxL := maxL) (ret := ret) hy rfl ?_
  intro p e s m args below meth c s₁ B hml hv
  obtain ⟨rfl, hsz, hP, hK, hD0⟩ := hv
  subst hsz
  have hD := hD0.self (sz := s.heap.size)
  have hts := atoms_spec (ws := wG y cc maxL ret) B.pre
  have hown := findClass_of_methodNamed B.named
  rw [lg_entry_eq]
  exact body p e _ s m _ below meth c _ rfl ⟨B.exec, B.bytes, hml, hown, fun w hw => hts w (List.mem_cons_of_mem _ hw)⟩ B.returns B.notSynchronized (fun q h => Or.inr h) ⟨hP, hK, hD, va_S.rf⟩ _ (lv_entry av hlen)
theorem va_D.addr {A : Nat → Prop} {ws ws' : va_W} (h : va_D A ws) (e : ws'.map (·.1) = ws.map (·.1)) : va_D A ws' := by
  have key : ∀ (k : Nat) (q : Nat × va_E), ws'[k]? = some q → ∃ q0, ws[k]? = some q0 ∧ q0.1 = q.1 := by
    intro k q hk
    have h1 : (ws'.map (·.1))[k]? = some q.1 := by rw [List.getElem?_map, hk]; rfl
    rw [e, List.getElem?_map] at h1
    cases h2 : ws[k]? with
    | none => rw [h2] at h1; cases h1
    | some q0 => rw [h2] at h1; exact ⟨q0, rfl, Option.some.inj h1⟩
  refine ⟨fun i j x y hi hj hxy => ?_, fun k q hk => ?_⟩
  · obtain ⟨x0, h1, h2⟩ := key i x hi
    obtain ⟨y0, h3, h4⟩ := key j y hj
    exact h.1 i j x0 y0 h1 h3 (h2.trans (hxy.trans h4.symm))
  · obtain ⟨q0, h1, h2⟩ := key k q hk
    rw [← h2]
    exact h.2 k q0 h1
theorem ct_blind {D : va_G} {wf : Sg → va_W} {ty : List (ClassId × FieldType)} {av : List Value} {sz : Nat} {z : Sg} : FrameBlind (va_Pc av (CPre D wf ty sz z)) := by
  intro a U g mk q
  obtain ⟨q0, q1, qP, qK, qD⟩ := q
  exact ⟨q0, q1, qP, va_K.moved (u := U) (U := U.calling g mk a) (Vm.Alike.refl U.vm) qK, qD⟩
section CTR
variable {p : Program} {l : Launch} {e : Env} {R : Room} {s : State} {m : MethodId} {args : Array Value} {below : List Frame} {meth : Method} {c : Code} {H : Heap} {locs : List Loc} {cells slots : Nat} {Q : State → Prop}
variable {cc : ByteArray} {nL pc : Nat} {ls : Array Slot} {rest st0 st1 : List Value} {D : va_G} {wf : Sg → va_W} {ty : List (ClassId × FieldType)} {A : Nat → Prop} {a : Nat} {z z' : Sg} {own C : String} {idx : Nat} {res : Option Value}
theorem ct_run {av : Array Value} (hr : va_Run p l e R s m args below meth c H locs cells slots 0 0 (F0 m pc ls st0) rest (CQ D wf (va_A (wf z) H.size) res z' av) (va_A (wf z) H.size)) (hA : ∀ q : Nat, s.heap.size ≤ q → A q) (hW : Wd D wf ty A s H locs z) (ha : (wf z').map (·.1) = (wf z).map (·.1))
    (kk : ∀ (H1 : Heap) (locs1 : List Loc), Wd D wf ty A s H1 locs1 z' → W p l e R s m args below meth c H1 locs1 cells slots Q (F0 m (pc + 3) ls (res.toList ++ rest))) : W p l e R s m args below meth c H locs cells slots Q (F0 m pc ls st0) := by
  obtain ⟨hP, hK, hD, hS⟩ := hW
  intro T hT X
  obtain ⟨v, st₀, t, T', L, h0, X', hL, e1, e2, ⟨hv, hb, hz, hk⟩, st⟩ := hr T hT X
  cases hv
  rw [h0] at hz hk
  have hfree : ∀ q, va_A (wf z) H.size q → A q := fun q h => by
    rcases h with ⟨k, e9, h⟩ | h
    · exact hD.2 k (q, e9) h
    · exact hA q (Nat.le_trans hS.1 h)
  have hS1 : va_S A s.heap T'.heap (locs ++ L) := by
    refine ⟨Nat.le_trans hS.1 (by rw [e1]; exact hz), fun q h1 h2 => ?_, fun q hq => ?_⟩
    · rw [e1, hk q (Nat.lt_of_lt_of_le h1 hS.1) (fun y => h2 (hfree q y))]
      exact hS.2.1 q h1 h2
    · rcases List.mem_append.mp hq with h | h
      · exact hS.2.2 q h
      · exact hfree _ (hL q h)
  obtain ⟨t2, a1, b1⟩ := kk T'.heap (locs ++ L) ⟨by rw [e1]; exact hb, hK, hD.addr ha, hS1⟩ T' rfl X'
  exact ⟨t2, st t2 a1, b1⟩
theorem ct_V {y : MethodName} {cy : ByteArray} {ny : Nat} {ry : Option FieldType} {rm : Room} {b : Nat} {As : List Value} {ci n q0 N : Nat} {T : u_T} {fs : List Value} (S : CallFix p m c cc nL s args wsL_law own) (hA : ∀ q : Nat, s.heap.size ≤ q → A q) (hW : Wd D wf ty A s H locs z) (hM : CT D wf ty l y (wG y cy ny ry) rm (.ref b :: As) z res z') (hG : GoodIn wsL_law (wsV own idx C y (wG y cy ny ry))) (hc0 : rm.cells = 0 ∧ rm.slots = 0)
    (hd : y.cls = C ∧ y.cls ≠ "java/lang/invoke/MethodHandle" ∧ y.cls ≠ "java/lang/invoke/VarHandle" ∧ (parseMethodDescriptor y.desc).map (fun d => d.parameters.length) = some n) (hR : rm.frames + 1 ≤ R.frames ∧ 8 + (ny + 11) + rm.locals ≤ R.locals) (hcl : vwCl[ci]? = some (C, T, N)) (he : (wf z)[q0]? = some (b, .inr (ci, fs))) (ha : (wf z').map (·.1) = (wf z).map (·.1)) (hn : As.length = n) (hsize : ls.size = nL) (hst : st0 = As.reverse ++ .ref b :: rest) (hrm : (rest.map fun v => v.category).sum ≤ 8) (hcs : cells ≤ R.cells ∧ slots ≤ R.slots) (hdg : decode cc pc = .ok (.invokevirtual idx, 3)) (h1 : st1 = res.toList ++ rest)
    (kk : ∀ (H1 : Heap) (locs1 : List Loc), Wd D wf ty A s H1 locs1 z' → W p l e R s m args below meth c H1 locs1 cells slots Q (F0 m (pc + 3) ls st1)) : W p l e R s m args below meth c H locs cells slots Q (F0 m pc ls st0) := by
  subst h1
  obtain ⟨hP, hK, hD, hS⟩ := id hW
  exact ct_run (va_runV (As := As) (rest := rest) S (hM H.size) (cwV n S.2.2.2.2 hG rfl hc0.1 hc0.2 hd hR) ⟨ct_blind, va_recv hK hP hcl he, fun U hU hW => ⟨rfl, by rw [hU], by rw [hU]; exact hP, va_K.moved hW.alike hK, hD.weaken (fun _ _ _ _ => trivial)⟩⟩ rfl hn hsize hst (lv_room hrm) hdg hcs) hA hW ha kk
theorem ct_S {y : MethodName} {cy : ByteArray} {ny : Nat} {ry : Option FieldType} {rm : Room} {As : List Value} {n : Nat} (S : CallFix p m c cc nL s args wsL_law own) (hA : ∀ q : Nat, s.heap.size ≤ q → A q) (hW : Wd D wf ty A s H locs z) (hM : CT D wf ty l y (wG y cy ny ry) rm As z res z') (hG : GoodIn wsL_law (wsS own idx y (wG y cy ny ry))) (hc0 : rm.cells = 0 ∧ rm.slots = 0)
    (hd : y.cls = own ∧ y.cls ≠ "java/lang/invoke/MethodHandle" ∧ y.cls ≠ "java/lang/invoke/VarHandle" ∧ (parseMethodDescriptor y.desc).map (fun d => d.parameters.length) = some n) (hR : rm.frames + 1 ≤ R.frames ∧ 8 + (ny + 11) + rm.locals ≤ R.locals) (ha : (wf z').map (·.1) = (wf z).map (·.1)) (hn : As.length = n) (hsize : ls.size = nL) (hst : st0 = As.reverse ++ rest) (hrm : (rest.map fun v => v.category).sum ≤ 8) (hcs : cells ≤ R.cells ∧ slots ≤ R.slots) (hdg : decode cc pc = .ok (.invokestatic idx, 3)) (h1 : st1 = res.toList ++ rest)
    (kk : ∀ (H1 : Heap) (locs1 : List Loc), Wd D wf ty A s H1 locs1 z' → W p l e R s m args below meth c H1 locs1 cells slots Q (F0 m (pc + 3) ls st1)) : W p l e R s m args below meth c H locs cells slots Q (F0 m pc ls st0) := by
  subst h1
  obtain ⟨hP, hK, hD, hS⟩ := id hW
  exact ct_run (va_runS (As := As) (rest := rest) S (hM H.size) (cwS n S.2.2.2.2 hG rfl hc0.1 hc0.2 hd hR) ⟨ct_blind, fun U hU hW => ⟨rfl, by rw [hU], by rw [hU]; exact hP, va_K.moved hW.alike hK, hD.weaken (fun _ _ _ _ => trivial)⟩⟩ rfl hn hsize hst (lv_room hrm) hdg hcs) hA hW ha kk
theorem lv_nmi {x y : Int32} (h : y = x) (k : W p l e R s m args below meth c H locs cells slots Q (F0 m pc ls (.int y :: rest))) : W p l e R s m args below meth c H locs cells slots Q (F0 m pc ls (.int x :: rest)) := h ▸ k
theorem lv_nml {x y : Int64} (h : y = x) (k : W p l e R s m args below meth c H locs cells slots Q (F0 m pc ls (.long y :: rest))) : W p l e R s m args below meth c H locs cells slots Q (F0 m pc ls (.long x :: rest)) := h ▸ k
theorem ct_i {v : Int32} (S : CallFix p m c cc nL s args wsL_law own) (hr : meth.sig.returnType = some .int) (hlocks : meth.locks = false) (hW : Wd D wf ty A s H locs z) (hd : decode cc pc = .ok (.ireturn, 1)) : W p l e R s m args below meth c H locs 0 0 (MQ below (CQ D wf A (some (.int v)) z) args s 0 0 A) (F0 m pc ls [.int v]) := W.iret S.1 S.2.1 hr (fun t ht _ => ⟨rfl, by rw [ht]; exact hW.1, hW.2.2.2.F ht⟩) hW.2.2.2.2.2 hd hlocks
theorem ct_z {v : Int32} (hv : v = 0 ∨ v = 1) (S : CallFix p m c cc nL s args wsL_law own) (hr : meth.sig.returnType = some .boolean) (hlocks : meth.locks = false) (hW : Wd D wf ty A s H locs z) (hd : decode cc pc = .ok (.ireturn, 1)) : W p l e R s m args below meth c H locs 0 0 (MQ below (CQ D wf A (some (.int v)) z) args s 0 0 A) (F0 m pc ls [.int v]) := W.zret S.1 S.2.1 hr (by rcases hv with rfl | rfl <;> rfl) (fun t ht _ => ⟨rfl, by rw [ht]; exact hW.1, hW.2.2.2.F ht⟩) hW.2.2.2.2.2 hd hlocks
theorem ct_l {v : Int64} (S : CallFix p m c cc nL s args wsL_law own) (hr : meth.sig.returnType = some .long) (hlocks : meth.locks = false) (hW : Wd D wf ty A s H locs z) (hd : decode cc pc = .ok (.lreturn, 1)) : W p l e R s m args below meth c H locs 0 0 (MQ below (CQ D wf A (some (.long v)) z) args s 0 0 A) (F0 m pc ls [.long v]) := W.lret S.1 S.2.1 hr (fun t ht _ => ⟨rfl, by rw [ht]; exact hW.1, hW.2.2.2.F ht⟩) hW.2.2.2.2.2 hd hlocks
theorem ct_v (S : CallFix p m c cc nL s args wsL_law own) (hr : meth.sig.returnType = none) (hlocks : meth.locks = false) (hW : Wd D wf ty A s H locs z) (hd : decode cc pc = .ok (.return_, 1)) : W p l e R s m args below meth c H locs 0 0 (MQ below (CQ D wf A none z) args s 0 0 A) (F0 m pc ls []) := W.vret S.1 S.2.1 hr (fun t ht _ => ⟨rfl, by rw [ht]; exact hW.1, hW.2.2.2.F ht⟩) hW.2.2.2.2.2 hd hlocks
theorem wd_get {T : u_T} {N ci : Nat} {fs : List Value} {v : Value} (S : CallFix p m c cc nL s args wsL_law own) (hW : Wd D wf ty A s H locs z) (q0 : Nat) (he : (wf z)[q0]? = some (a, .inr (ci, fs))) (hc : vwCl[ci]? = some (C, T, N)) (hin : ∀ w ∈ u_ws C T N, w ∈ wsL_law) (k : Nat) (hk : k < N) (hlink : Cond.fieldLink own idx (T k).1 (T k).2.1 (T k).2.2.1 ∈ wsL_law) (hv : fs[k]? = some v) (hdg : decode cc pc = .ok (.getfield idx, 3))
    (kk : W p l e R s m args below meth c H locs cells slots Q (F0 m (pc + 3) ls (v :: rest))) : W p l e R s m args below meth c H locs cells slots Q (F0 m pc ls (.ref a :: rest)) := va_get S.1 S.2.1 S.2.2.2.2 hin S.2.2.2.1 hW.2.1 hW.1 q0 he hc k hk (S.2.2.2.2 _ hlink) (fun _ h => h) hv hdg kk
theorem wd_put {T : u_T} {N ci : Nat} {fs : List Value} {v : Value} {vt : FieldType} (S : CallFix p m c cc nL s args wsL_law own) (hW : Wd D wf ty A s H locs z) (q0 : Nat) (he : (wf z)[q0]? = some (a, .inr (ci, fs))) (hc : vwCl[ci]? = some (C, T, N)) (hin : ∀ w ∈ u_ws C T N, w ∈ wsL_law) (ty0 : Nat → FieldType) (hty : ∀ k, k < N → parseFieldDescriptor (T k).2.2.1 = some (ty0 k)) (hnm : ∀ a, a < N → ∀ b, b < N → a ≠ b → (T a).2.1 ≠ (T b).2.1) (k : Nat) (hk : k < N) (hlink : Cond.fieldLink own idx (T k).1 (T k).2.1 (T k).2.2.1 ∈ wsL_law) (hfin : (T k).2.2.2 = false) (hd : parseFieldDescriptor (T k).2.2.1 = some vt) (hn : narrow vt v = v) (hfit : fits vt v = true) (hl : k < fs.length) (hz : (wf z).set q0 (a, .inr (ci, fs.set k v)) = wf z') (hdg : decode cc pc = .ok (.putfield idx, 3))
    (kk : ∀ (H1 : Heap) (locs1 : List Loc), Wd D wf ty A s H1 locs1 z' → W p l e R s m args below meth c H1 locs1 cells slots Q (F0 m (pc + 3) ls rest)) : W p l e R s m args below meth c H locs cells slots Q (F0 m pc ls (v :: .ref a :: rest)) :=
  va_put S.1 S.2.1 S.2.2.2.2 hin ty0 hty hnm S.2.2.2.1 hW.2.1 hW.1 hW.2.2.1 hW.2.2.2 q0 he hc k hk (S.2.2.2.2 _ hlink) (fun _ h => h) hfin hd hn hfit hl hdg (fun H1 locs1 h1 h2 h3 => kk H1 locs1 ⟨hz ▸ h1, hW.2.1, hz ▸ h2, h3⟩)
theorem wd_iald {cA : ClassId} {n : Nat} {f : Nat → Int32} {i : Int32} (S : CallFix p m c cc nL s args wsL_law own) (hW : Wd D wf ty A s H locs z) (q0 t0 : Nat) (ha : (wf z)[q0]? = some (a, .inl (cA, n, .inl f))) (ht : ty[t0]? = some (cA, .int)) (hin : vp_in i n) (hdg : decode cc pc = .ok (.iaload, 1))
    (kk : W p l e R s m args below meth c H locs cells slots Q (F0 m (pc + 1) ls (.int (f i.toNatClampNeg) :: rest))) : W p l e R s m args below meth c H locs cells slots Q (F0 m pc ls (.int i :: .ref a :: rest)) := va_iald S.1 S.2.1 hW.2.1 hW.1 q0 t0 ha ht hin hdg kk
theorem wd_zald {cA : ClassId} {n : Nat} {f : Nat → Int32} {i : Int32} (S : CallFix p m c cc nL s args wsL_law own) (hW : Wd D wf ty A s H locs z) (q0 t0 : Nat) (ha : (wf z)[q0]? = some (a, .inl (cA, n, .inl f))) (ht : ty[t0]? = some (cA, .boolean)) (hin : vp_in i n) (hdg : decode cc pc = .ok (.baload, 1))
    (kk : W p l e R s m args below meth c H locs cells slots Q (F0 m (pc + 1) ls (.int (f i.toNatClampNeg) :: rest))) : W p l e R s m args below meth c H locs cells slots Q (F0 m pc ls (.int i :: .ref a :: rest)) := va_zald S.1 S.2.1 hW.2.1 hW.1 q0 t0 ha ht hin hdg kk
theorem wd_iast {cA : ClassId} {n : Nat} {f : Nat → Int32} {i x : Int32} (S : CallFix p m c cc nL s args wsL_law own) (hW : Wd D wf ty A s H locs z) (q0 t0 : Nat) (ha : (wf z)[q0]? = some (a, .inl (cA, n, .inl f))) (ht : ty[t0]? = some (cA, .int)) (hin : vp_in i n) (hz : (wf z).set q0 (a, .inl (cA, n, .inl (upd f i.toNatClampNeg x))) = wf z') (hdg : decode cc pc = .ok (.iastore, 1))
    (kk : ∀ (H1 : Heap) (locs1 : List Loc), Wd D wf ty A s H1 locs1 z' → W p l e R s m args below meth c H1 locs1 cells slots Q (F0 m (pc + 1) ls rest)) : W p l e R s m args below meth c H locs cells slots Q (F0 m pc ls (.int x :: .int i :: .ref a :: rest)) := va_iast S.1 S.2.1 hW.2.1 hW.1 hW.2.2.1 hW.2.2.2 q0 t0 ha ht hin hdg (fun H1 locs1 h1 h2 h3 => kk H1 locs1 ⟨hz ▸ h1, hW.2.1, hz ▸ h2, h3⟩)
theorem wd_zast {cA : ClassId} {n : Nat} {f : Nat → Int32} {i x : Int32} (S : CallFix p m c cc nL s args wsL_law own) (hW : Wd D wf ty A s H locs z) (q0 t0 : Nat) (ha : (wf z)[q0]? = some (a, .inl (cA, n, .inl f))) (ht : ty[t0]? = some (cA, .boolean)) (hin : vp_in i n) (hz : (wf z).set q0 (a, .inl (cA, n, .inl (upd f i.toNatClampNeg (vp_nar .boolean x)))) = wf z') (hdg : decode cc pc = .ok (.bastore, 1))
    (kk : ∀ (H1 : Heap) (locs1 : List Loc), Wd D wf ty A s H1 locs1 z' → W p l e R s m args below meth c H1 locs1 cells slots Q (F0 m (pc + 1) ls rest)) : W p l e R s m args below meth c H locs cells slots Q (F0 m pc ls (.int x :: .int i :: .ref a :: rest)) := va_zast S.1 S.2.1 hW.2.1 hW.1 hW.2.2.1 hW.2.2.2 q0 t0 ha ht hin hdg (fun H1 locs1 h1 h2 h3 => kk H1 locs1 ⟨hz ▸ h1, hW.2.1, hz ▸ h2, h3⟩)
theorem wd_alen {cA : ClassId} {x : vp_A} {vt : FieldType} {v : Int32} (S : CallFix p m c cc nL s args wsL_law own) (hW : Wd D wf ty A s H locs z) (q0 t0 : Nat) (ha : (wf z)[q0]? = some (a, .inl (cA, x))) (ht : ty[t0]? = some (cA, vt)) (hv : Int32.ofNat x.1 = v) (hdg : decode cc pc = .ok (.arraylength, 1))
    (kk : W p l e R s m args below meth c H locs cells slots Q (F0 m (pc + 1) ls (.int v :: rest))) : W p l e R s m args below meth c H locs cells slots Q (F0 m pc ls (.ref a :: rest)) := va_alen S.1 S.2.1 hW.2.1 hW.1 q0 t0 ha ht hv hdg kk
end CTR
