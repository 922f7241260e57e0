/-! the law's calls: the class's world and the reference's, side by side -/
def Wl (D : va_G) (g g' : Gv) (A : Nat → Prop) (s : State) (H : Heap) (locs : List Loc) (z w : Sg) : Prop := va_P D vwCl (wD g z ++ wM g' w) H ∧ va_K D vwCl (tD g ++ tM g') s ∧ va_D A (wD g z ++ wM g' w) ∧ va_S A s.heap H locs
section LWK
variable {p : Program} {l : Launch} {e : Env} {R : Room} {s : State} {m : MethodId} {args : Array Value} {below : List Frame} {meth : Method} {c : Code} {H : Heap} {locs : List Loc} {cells slots : Nat} {Q : State → Prop}
variable {cc : ByteArray} {nL pc : Nat} {ls : Array Slot} {rest st0 st1 : List Value} {D : va_G} {A : Nat → Prop} {z z' w w' : Sg} {idx : Nat} {res : Option Value} {g g' : Gv}
theorem lw_D {y : MethodName} {cy : ByteArray} {ny : Nat} {ry : Option FieldType} {rm : Room} {As : List Value} {n : Nat} (S : CallFix p m c cc nL s args wsL_law RL) (hA : ∀ q : Nat, s.heap.size ≤ q → A q) (hW : Wl D g g' A s H locs z w) (hM : CT D (wD g) (tD g) l y (wG y cy ny ry) rm (.ref (g.1 0) :: As) z res z') (hG : GoodIn wsL_law (wsV RL idx RX4 y (wG y cy ny ry))) (hc0 : rm.cells = 0 ∧ rm.slots = 0)
    (hd : y.cls = RX4 ∧ y.cls ≠ "java/lang/invoke/MethodHandle" ∧ y.cls ≠ "java/lang/invoke/VarHandle" ∧ (parseMethodDescriptor y.desc).map (fun d => d.parameters.length) = some n) (hR : rm.frames + 1 ≤ R.frames ∧ 8 + (ny + 11) + rm.locals ≤ R.locals) (hn : As.length = n) (hsize : ls.size = nL) (hst : st0 = As.reverse ++ .ref (g.1 0) :: rest) (hrm : (rest.map fun v => v.category).sum ≤ 8) (hcs : cells ≤ R.cells ∧ slots ≤ R.slots) (hdg : decode cc pc = .ok (.invokevirtual idx, 3)) (h1 : st1 = res.toList ++ rest)
    (kk : ∀ (H1 : Heap) (locs1 : List Loc), Wl D g g' A s H1 locs1 z' w → W p l e R s m args below meth c H1 locs1 cells slots Q (F0 m (pc + 3) ls st1)) : W p l e R s m args below meth c H locs cells slots Q (F0 m pc ls st0) := by
  subst h1
  obtain ⟨hP, hK, hD, hS⟩ := id hW
  have hPc : va_P D vwCl (wD g z) H := hP.sub [0, 1, 2, 3, 4, 5, 6, 7, 8, 9, 10, 11] rfl
  have hDc : va_D A (wD g z) := hD.sub [0, 1, 2, 3, 4, 5, 6, 7, 8, 9, 10, 11] (by decide) rfl
  have hKc : va_K D vwCl (tD g) s := hK.sub [0, 1, 2, 3, 4, 5, 6] rfl
  have hFc := va_free (wc := wD g z) hD hS hA [0, 1, 2, 3, 4, 5, 6, 7, 8, 9, 10, 11] rfl
  have hr := va_runV (l := l) (p := p) (e := e) (below := below) (meth := meth) (locs := locs) (R := R) (cells := cells) (slots := slots) (g := F0 m pc ls st0) (As := As) (rest := rest) S (hM H.size) (cwV n S.2.2.2.2 hG rfl hc0.1 hc0.2 hd hR) ⟨ct_blind, va_recv hKc hPc (ci := 4) (q0 := 0) rfl rfl, fun U hU hW => ⟨rfl, by rw [hU], by rw [hU]; exact hPc, va_K.moved hW.alike hKc, hDc.weaken (fun _ _ _ _ => trivial)⟩⟩ rfl hn hsize hst (lv_room hrm) hdg hcs
  intro T hT X
  obtain ⟨v, st₀, t, T', L, h0, X', hL, e1, e2, ⟨hv, hb, hz, hk⟩, st⟩ := hr T hT X
  cases hv
  rw [h0] at hz hk
  have hk' : ∀ q : Nat, q < H.size → ¬ va_A (wD g z) H.size q → T'.heap[q]? = H[q]? := fun q h1 h2 => by rw [e1]; exact hk q h1 h2
  have hb' : va_P D vwCl (wD g z') T'.heap := by rw [e1]; exact hb
  obtain ⟨hP2, hD2⟩ := va_join (wr := wM g' w) (w1 := wD g z') hP hD [0, 1, 2, 3, 4, 5, 6, 7, 8, 9, 10, 11] [12, 13, 14, 15, 16, 17, 18, 19, 20, 21] rfl rfl (by decide) (by decide) hk' hFc hb' ((hDc.self (sz := H.size)).addr rfl)
  have hS1 : va_S A s.heap T'.heap (locs ++ L) := by
    refine ⟨Nat.le_trans hS.1 (by rw [e1]; exact hz), fun q h1 h2 => ?_, fun q hq => ?_⟩
    · rw [hk' q (Nat.lt_of_lt_of_le h1 hS.1) (fun y => h2 (hFc q y))]
      exact hS.2.1 q h1 h2
    · rcases List.mem_append.mp hq with h | h
      · exact hS.2.2 q h
      · exact hFc _ (hL q h)
  obtain ⟨t2, a1, b1⟩ := kk T'.heap (locs ++ L) ⟨hP2.sub [10, 11, 12, 13, 14, 15, 16, 17, 18, 19, 20, 21, 0, 1, 2, 3, 4, 5, 6, 7, 8, 9] rfl, hK, hD2.sub [10, 11, 12, 13, 14, 15, 16, 17, 18, 19, 20, 21, 0, 1, 2, 3, 4, 5, 6, 7, 8, 9] (by decide) rfl, hS1⟩ T' rfl X'
  exact ⟨t2, st t2 a1, b1⟩
theorem lw_M {y : MethodName} {cy : ByteArray} {ny : Nat} {ry : Option FieldType} {rm : Room} {As : List Value} {n : Nat} (S : CallFix p m c cc nL s args wsL_law RL) (hA : ∀ q : Nat, s.heap.size ≤ q → A q) (hW : Wl D g g' A s H locs z w) (hM : CT D (wM g') (tM g') l y (wG y cy ny ry) rm (.ref (g'.1 0) :: As) w res w') (hG : GoodIn wsL_law (wsV RL idx RX5 y (wG y cy ny ry))) (hc0 : rm.cells = 0 ∧ rm.slots = 0)
    (hd : y.cls = RX5 ∧ y.cls ≠ "java/lang/invoke/MethodHandle" ∧ y.cls ≠ "java/lang/invoke/VarHandle" ∧ (parseMethodDescriptor y.desc).map (fun d => d.parameters.length) = some n) (hR : rm.frames + 1 ≤ R.frames ∧ 8 + (ny + 11) + rm.locals ≤ R.locals) (hn : As.length = n) (hsize : ls.size = nL) (hst : st0 = As.reverse ++ .ref (g'.1 0) :: rest) (hrm : (rest.map fun v => v.category).sum ≤ 8) (hcs : cells ≤ R.cells ∧ slots ≤ R.slots) (hdg : decode cc pc = .ok (.invokevirtual idx, 3)) (h1 : st1 = res.toList ++ rest)
    (kk : ∀ (H1 : Heap) (locs1 : List Loc), Wl D g g' A s H1 locs1 z w' → W p l e R s m args below meth c H1 locs1 cells slots Q (F0 m (pc + 3) ls st1)) : W p l e R s m args below meth c H locs cells slots Q (F0 m pc ls st0) := by
  subst h1
  obtain ⟨hP, hK, hD, hS⟩ := id hW
  have hPc : va_P D vwCl (wM g' w) H := hP.sub [12, 13, 14, 15, 16, 17, 18, 19, 20, 21] rfl
  have hDc : va_D A (wM g' w) := hD.sub [12, 13, 14, 15, 16, 17, 18, 19, 20, 21] (by decide) rfl
  have hKc : va_K D vwCl (tM g') s := hK.sub [7, 8, 9, 10, 11, 12, 13, 14, 15] rfl
  have hFc := va_free (wc := wM g' w) hD hS hA [12, 13, 14, 15, 16, 17, 18, 19, 20, 21] rfl
  have hr := va_runV (l := l) (p := p) (e := e) (below := below) (meth := meth) (locs := locs) (R := R) (cells := cells) (slots := slots) (g := F0 m pc ls st0) (As := As) (rest := rest) S (hM H.size) (cwV n S.2.2.2.2 hG rfl hc0.1 hc0.2 hd hR) ⟨ct_blind, va_recv hKc hPc (ci := 5) (q0 := 0) rfl rfl, fun U hU hW => ⟨rfl, by rw [hU], by rw [hU]; exact hPc, va_K.moved hW.alike hKc, hDc.weaken (fun _ _ _ _ => trivial)⟩⟩ rfl hn hsize hst (lv_room hrm) hdg hcs
  intro T hT X
  obtain ⟨v, st₀, t, T', L, h0, X', hL, e1, e2, ⟨hv, hb, hz, hk⟩, st⟩ := hr T hT X
  cases hv
  rw [h0] at hz hk
  have hk' : ∀ q : Nat, q < H.size → ¬ va_A (wM g' w) H.size q → T'.heap[q]? = H[q]? := fun q h1 h2 => by rw [e1]; exact hk q h1 h2
  have hb' : va_P D vwCl (wM g' w') T'.heap := by rw [e1]; exact hb
  obtain ⟨hP2, hD2⟩ := va_join (wr := wD g z) (w1 := wM g' w') hP hD [12, 13, 14, 15, 16, 17, 18, 19, 20, 21] [0, 1, 2, 3, 4, 5, 6, 7, 8, 9, 10, 11] rfl rfl (by decide) (by decide) hk' hFc hb' ((hDc.self (sz := H.size)).addr rfl)
  have hS1 : va_S A s.heap T'.heap (locs ++ L) := by
    refine ⟨Nat.le_trans hS.1 (by rw [e1]; exact hz), fun q h1 h2 => ?_, fun q hq => ?_⟩
    · rw [hk' q (Nat.lt_of_lt_of_le h1 hS.1) (fun y => h2 (hFc q y))]
      exact hS.2.1 q h1 h2
    · rcases List.mem_append.mp hq with h | h
      · exact hS.2.2 q h
      · exact hFc _ (hL q h)
  obtain ⟨t2, a1, b1⟩ := kk T'.heap (locs ++ L) ⟨hP2, hK, hD2, hS1⟩ T' rfl X'
  exact ⟨t2, st t2 a1, b1⟩
/-- a call that reads the heap alone -/
theorem cs_run {av : Array Value} {Qa : State → Outcome → State → Prop} (hr : va_Run p l e R s m args below meth c H locs cells slots 0 0 (F0 m pc ls st0) rest Qa (fun _ => False)) (hq : ∀ st oc t, Qa st oc t → oc = .returned res ∧ t.heap = st.heap) (h1 : st1 = res.toList ++ rest) (kk : W p l e R s m args below meth c H locs cells slots Q (F0 m (pc + 3) ls st1)) : W p l e R s m args below meth c H locs cells slots Q (F0 m pc ls st0) := by
  subst h1
  intro T hT X
  obtain ⟨v, st₀, t, T', L, h0, X', hL, e1, e2, hqa, st⟩ := hr T hT X
  obtain ⟨hv, hh⟩ := hq _ _ _ hqa
  cases hv
  have hLn : L = [] := by
    cases L with
    | nil => rfl
    | cons q L => exact absurd (hL q List.mem_cons_self) id
  subst hLn
  rw [List.append_nil] at X'
  obtain ⟨t2, a1, b1⟩ := kk T' (by rw [e1, hh, h0]) X'
  exact ⟨t2, st t2 a1, b1⟩
end LWK
theorem hd_L_cell : yL_cell.cls = RL ∧ yL_cell.cls ≠ "java/lang/invoke/MethodHandle" ∧ yL_cell.cls ≠ "java/lang/invoke/VarHandle" ∧ (parseMethodDescriptor yL_cell.desc).map (fun d => d.parameters.length) = some 2 := by decide +kernel
def cellv (L : Nat) (xs : Nat → Int32) (j : Nat) : Int32 := if j < L then xs j else 0
set_option maxHeartbeats 4000000 in
set_option maxRecDepth 100000 in
theorem c_cell (l : Launch) {b L : Nat} {xs : Nat → Int32} {j : Nat} (hj : j < 3) (hL : L ≤ 1539) : Met l yL_cell (wG yL_cell cL_cell 2 (some .int)) { frames := 0, cells := 0, slots := 0, locals := 0 } (va_Pc [.ref b, .int (nI j)] (fun U => va_X b L xs U U.heap)) (fun _ st oc t => oc = .returned (some (.int (cellv L xs j))) ∧ t.heap = st.heap) 0 0 (fun _ => False) := by
  refine Met.ofW (cc := cL_cell) (maxL := 2) (ret := some .int) (by decide) rfl ?_
  intro p e s m args below meth c s₁ B hml hv
  obtain ⟨rfl, hX⟩ := hv
  have hx := B.exec
  have hb := B.bytes
  have hr := B.returns
  have hlocks := B.notSynchronized
  have hbl : b < s.heap.size := by
    obtain ⟨scr, h1, -⟩ := hX
    exact (Array.getElem?_eq_some_iff.mp h1).1
  have hbA : ¬ (fun _ : Nat => False) b := id
  have hS : va_S (fun _ : Nat => False) s.heap s.heap [] := va_S.rf
  have hl := lv_entry ([.ref b, .int (nI j)]) (n := 2) (Nat.le_of_ble_eq_true rfl)
  rw [lg_entry_eq]
  generalize (lg_sl ([.ref b, .int (nI j)]) ++ List.replicate (2 - (lg_sl ([.ref b, .int (nI j)])).length) Slot.unset).toArray = ls at hl ⊢
  have hl : lv_has ls 2 [(0, .ref b), (1, .int (nI j))] := hl
  refine lv_iload_n hx hb dL_cell_0 rfl (lv_at hl 1 rfl) ?_
  refine lv_aload_n hx hb dL_cell_1 rfl (lv_at hl 0 rfl) ?_
  refine va_slen hx hb hX hbl hbA hS dL_cell_2 ?_
  refine lv_icmp_ge (tgt := 12) hx hb dL_cell_3 (by decide) (fun c1 => ?_) (fun c1 => ?_)
  · refine lv_iconst (v := 0) hx hb dL_cell_12 (by decide) ?_
    have hn : ¬ j < L := fun q => nI_ge q (by omega) c1
    exact W.iret (v := 0) hx hb hr (fun t ht _ => ⟨by rw [cellv, if_neg hn], ht⟩) (fun q hq => by cases hq) dL_cell_13
  · have hn : j < L := by
      rcases Nat.lt_or_ge j L with q | q
      · exact q
      · exact absurd (nI_le q (by omega)) c1
    refine lv_aload_n hx hb dL_cell_6 rfl (lv_at hl 0 rfl) ?_
    refine lv_iload_n hx hb dL_cell_7 rfl (lv_at hl 1 rfl) ?_
    refine va_sld hx hb hX hbl hbA hS (vp_in_nI hn (by omega)) dL_cell_8 ?_
    refine lv_goto (tgt := 13) hx hb dL_cell_9 (by decide) ?_
    exact W.iret (v := xs (Int32.toNatClampNeg (nI j))) hx hb hr (fun t ht _ => ⟨by rw [cellv, if_pos hn, nI_clamp (by omega)], ht⟩) (fun q hq => by cases hq) dL_cell_13
theorem cell_blind {av : List Value} {b L : Nat} {xs : Nat → Int32} : FrameBlind (va_Pc av (fun U => va_X b L xs U U.heap)) := by
  intro a U g mk q
  obtain ⟨q0, q1⟩ := q
  exact ⟨q0, va_X.moved (u := U) (U := U.calling g mk a) (Vm.Alike.refl U.vm) q1⟩
theorem lw_cell {p : Program} {l : Launch} {e : Env} {R : Room} {s : State} {m : MethodId} {args : Array Value} {below : List Frame} {meth : Method} {c : Code} {H : Heap} {locs : List Loc} {cells slots : Nat} {Q : State → Prop} {cc : ByteArray} {nL pc : Nat} {ls : Array Slot} {rest : List Value} {A : Nat → Prop} {b L : Nat} {xs : Nat → Int32} {j : Nat} (S : CallFix p m c cc nL s args wsL_law RL) (hj : j < 3) (hL : L ≤ 1539) (hX : va_X b L xs s s.heap) (hbl : b < s.heap.size) (hbA : ¬ A b) (hS : va_S A s.heap H locs) (hR : 0 + 1 ≤ R.frames ∧ 8 + (2 + 11) + 0 ≤ R.locals) (hsize : ls.size = nL) (hrm : (rest.map fun v => v.category).sum ≤ 8) (hcs : cells ≤ R.cells ∧ slots ≤ R.slots) (hdg : decode cc pc = .ok (.invokestatic 9, 3))
    (kk : W p l e R s m args below meth c H locs cells slots Q (F0 m (pc + 3) ls (.int (cellv L xs j) :: rest))) : W p l e R s m args below meth c H locs cells slots Q (F0 m pc ls (.int (nI j) :: .ref b :: rest)) := by
  have hXH : va_X b L xs s H := hX.kept (hS.2.1 b hbl hbA)
  exact cs_run (av := #[]) (va_runS (As := [.ref b, .int (nI j)]) (rest := rest) S (c_cell l (b := b) (xs := xs) hj hL) (cwS 2 S.2.2.2.2 (wG_S km_L_9 kz_yL_cell kn_L kc_yL_cell) rfl rfl rfl hd_L_cell hR) ⟨cell_blind, fun U hU hW => ⟨rfl, by show va_X b L xs U U.heap; rw [hU]; exact va_X.moved hW.alike hXH⟩⟩ rfl rfl hsize rfl (lv_room hrm) hdg hcs) (fun _ _ _ h => h) rfl kk
