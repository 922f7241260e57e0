set_option maxHeartbeats 8000000 in
set_option maxRecDepth 100000 in
/-- THE LAW, from its entry -/
theorem whole_start {p : Program} {e : Env} {s : State} {m : MethodId} {below : List Frame} {meth : Method} {c : Code} (l : Launch) {b L : Nat} {xs : Nat → Int32} (hL : L ≤ 1539) (C0 : lw_At p s m meth c b L xs) : W p l e room_1 s m #[Value.ref b] below meth c s.heap [] 0 0 (lw_Z below #[Value.ref b] s) (entryFrame m ([Value.ref b] : List Value).toArray 4) := by
  obtain ⟨hx, hb, hr, hml, hown, hts0, hX, hbl, hlocks, hgv⟩ := id C0
  have hts : ∀ w ∈ wsL_law, w.before #[Value.ref b] s = true := fun w h => hts0 w (wsL_law_in w h)
  have hA : ∀ q : Nat, s.heap.size ≤ q → (fun q : Nat => s.heap.size ≤ q) q := fun _ h => h
  have hbA : ¬ (fun q : Nat => s.heap.size ≤ q) b := Nat.not_le.mpr hbl
  have hb : c.code = cL_law := hb
  have hown : s.vm.findClass RL = some m.cls := hown
  have S : CallFix p m c cL_law 4 s #[Value.ref b] wsL_law RL := ⟨hx, hb, hml, hown, hts⟩
  obtain ⟨c0, iS0, hKn0⟩ := u_known (C := RX0) (T := TX0) (N := 10) (n := 10) hts inlX0 (hts _ kt_X0)
  obtain ⟨c1, iS1, hKn1⟩ := u_known (C := RX1) (T := TX1) (N := 5) (n := 5) hts inlX1 (hts _ kt_X1)
  obtain ⟨c2, iS2, hKn2⟩ := u_known (C := RX2) (T := TX2) (N := 14) (n := 14) hts inlX2 (hts _ kt_X2)
  obtain ⟨c3, iS3, hKn3⟩ := u_known (C := RX3) (T := TX3) (N := 3) (n := 3) hts inlX3 (hts _ kt_X3)
  obtain ⟨c4, iS4, hKn4⟩ := u_known (C := RX4) (T := TX4) (N := 11) (n := 11) hts inlX4 (hts _ kt_X4)
  obtain ⟨c5, iS5, hKn5⟩ := u_known (C := RX5) (T := TX5) (N := 28) (n := 28) hts inlX5 (hts _ kt_X5)
  obtain ⟨dC, dI, hKc⟩ : ∃ (dC : Nat → ClassId) (dI : Nat → Nat → Nat), ∀ (k : Nat) (q : vw_C), vwCl[k]? = some q → u_Kn s q.1 q.2.1 q.2.2 (dC k) (dI k) := by
    refine ⟨fun k => if k = 0 then c0 else if k = 1 then c1 else if k = 2 then c2 else if k = 3 then c3 else if k = 4 then c4 else c5, fun k => if k = 0 then iS0 else if k = 1 then iS1 else if k = 2 then iS2 else if k = 3 then iS3 else if k = 4 then iS4 else iS5, ?_⟩
    intro k q hq
    match k, hq with
    | 0, hq => cases hq; exact hKn0
    | 1, hq => cases hq; exact hKn1
    | 2, hq => cases hq; exact hKn2
    | 3, hq => cases hq; exact hKn3
    | 4, hq => cases hq; exact hKn4
    | 5, hq => cases hq; exact hKn5
    | k + 6, hq => simp [vwCl] at hq
  have hS : va_S (fun q : Nat => s.heap.size ≤ q) s.heap s.heap [] := va_S.rf
  have hK : va_K (dC, dI) vwCl [] s := ⟨hKc, fun k q h => by simp at h⟩
  have hP : va_P (dC, dI) vwCl [] s.heap := fun k q h => by simp at h
  have hD : va_D (fun q : Nat => s.heap.size ≤ q) [] := ⟨fun i j p q h => by simp at h, fun k q h => by simp at h⟩
  have hl := lv_entry ([.ref b]) (n := 4) (Nat.le_of_ble_eq_true rfl)
  rw [lg_entry_eq]
  generalize (lg_sl ([.ref b]) ++ List.replicate (4 - (lg_sl ([.ref b])).length) Slot.unset).toArray = ls at hl ⊢
  have hl : lv_has ls 4 [(0, .ref b)] := hl
  refine va_new (ci := 4) (fs := [.null, .null, .null, .null, .int 0, .int 0, .int 0, .int 0, .int 0, .int 0, .int 0]) (C := RX4) (T := TX4) (N := 11) hx hb hts inlX4 tyX4 tyX4_ok hown (hts _ kq_L_7) (hts _ kt_X4) (hts _ kn_X4) hK hP hD hS hA rfl (fun j hj => by rcases (show j = 0 ∨ j = 1 ∨ j = 2 ∨ j = 3 ∨ j = 4 ∨ j = 5 ∨ j = 6 ∨ j = 7 ∨ j = 8 ∨ j = 9 ∨ j = 10 by omega) with rfl | rfl | rfl | rfl | rfl | rfl | rfl | rfl | rfl | rfl | rfl <;> rfl) (Nat.le_of_ble_eq_true rfl) (Nat.le_of_ble_eq_true rfl) dL_law_0 (fun q0v H hP hD hS => ?_)
  have hP : va_P (dC, dI) vwCl ([(q0v, .inr (4, [.null, .null, .null, .null, .int 0, .int 0, .int 0, .int 0, .int 0, .int 0, .int 0]))]) H := hP
  have hD : va_D (fun q : Nat => s.heap.size ≤ q) ([(q0v, .inr (4, [.null, .null, .null, .null, .int 0, .int 0, .int 0, .int 0, .int 0, .int 0, .int 0]))]) := hD
  refine W.widen (k := 1) (n := 11) (by omega) (by omega) ?_
  refine lv_dup hx hb dL_law_3 rfl ?_
  refine lv_aload_n hx hb dL_law_4 rfl (lv_at hl 0 rfl) ?_
  refine lv_iconst (v := nI 0) hx hb dL_law_5 (by decide) ?_
  refine lw_cell (rest := [.ref q0v, .ref q0v]) S (by omega) hL hX hbl hbA hS ⟨Nat.le_of_ble_eq_true rfl, Nat.le_of_ble_eq_true rfl⟩ hl.1 (Nat.le_of_ble_eq_true rfl) ⟨Nat.le_of_ble_eq_true rfl, Nat.le_of_ble_eq_true rfl⟩ dL_law_6 ?_
  refine lv_aload_n hx hb dL_law_9 rfl (lv_at hl 0 rfl) ?_
  refine lv_iconst (v := nI 1) hx hb dL_law_10 (by decide) ?_
  refine lw_cell (rest := (.int (cellv L xs 0) :: [.ref q0v, .ref q0v])) S (by omega) hL hX hbl hbA hS ⟨Nat.le_of_ble_eq_true rfl, Nat.le_of_ble_eq_true rfl⟩ hl.1 (Nat.le_of_ble_eq_true rfl) ⟨Nat.le_of_ble_eq_true rfl, Nat.le_of_ble_eq_true rfl⟩ dL_law_11 ?_
  refine lv_aload_n hx hb dL_law_14 rfl (lv_at hl 0 rfl) ?_
  refine lv_iconst (v := nI 2) hx hb dL_law_15 (by decide) ?_
  refine lw_cell (rest := (.int (cellv L xs 1) :: (.int (cellv L xs 0) :: [.ref q0v, .ref q0v]))) S (by omega) hL hX hbl hbA hS ⟨Nat.le_of_ble_eq_true rfl, Nat.le_of_ble_eq_true rfl⟩ hl.1 (Nat.le_of_ble_eq_true rfl) ⟨Nat.le_of_ble_eq_true rfl, Nat.le_of_ble_eq_true rfl⟩ dL_law_16 ?_
  have hPc := hP.sub (ws' := [(q0v, .inr (4, [.null, .null, .null, .null, .int 0, .int 0, .int 0, .int 0, .int 0, .int 0, .int 0]))]) [0] rfl
  have hDc := hD.sub (ws' := [(q0v, .inr (4, [.null, .null, .null, .null, .int 0, .int 0, .int 0, .int 0, .int 0, .int 0, .int 0]))]) [0] (by decide) rfl
  have hKc := hK.sub (tys' := []) [] rfl
  have hFc := va_free (wc := [(q0v, .inr (4, [.null, .null, .null, .null, .int 0, .int 0, .int 0, .int 0, .int 0, .int 0, .int 0]))]) hD hS hA [0] rfl
  refine va_callv (va_runI (As := [.int (cellv L xs 0), .int (cellv L xs 1), .int (cellv L xs 2)]) (rest := [.ref q0v]) S (c_X4_init l (dC, dI) q0v H.size (cellv L xs 0) (cellv L xs 1) (cellv L xs 2)) (cwI 3 hts (wG_in kc_yX4_init) rfl rfl rfl (hts _ kn_X4) (hts _ km_L_15) (hts _ ki_yX4_init) rfl (by decide +kernel) ⟨Nat.le_of_ble_eq_true rfl, Nat.le_of_ble_eq_true rfl⟩) ⟨fun a U g mk q => by obtain ⟨q0, q1, qP, qK, qD⟩ := q; exact ⟨q0, q1, qP, va_K.moved (u := U) (U := U.calling g mk a) (Vm.Alike.refl U.vm) qK, qD⟩, fun U hU hW => ⟨rfl, by rw [hU], by rw [hU]; exact hPc, va_K.moved hW.alike hKc, hDc.weaken (fun _ _ _ _ => trivial)⟩⟩ rfl rfl hl.1 rfl (lv_room (Nat.le_of_ble_eq_true rfl)) dL_law_19 ⟨Nat.le_of_ble_eq_true rfl, Nat.le_of_ble_eq_true rfl⟩) hS (fun q _ h => hFc q h) hFc (fun u t H1 locs ht hvm hw hB hz1 hk1 hS => ?_)
  obtain ⟨dq1, dq2, dk3, dq4, dk5, dq6, dq7, dk8, dq9, dk10, dq11, dq12, dk13, dq14, dq15, dk16, dq17, dk18⟩ := u
  obtain ⟨hP1, hK1, hD1⟩ := hB
  rw [ht] at hP1
  have hK1 := va_K.moved hvm.symm hK1
  obtain ⟨hP, hD⟩ := va_join (wr := []) (w1 := [(q0v, .inr (4, [.ref dq1, .ref dq6, .ref dq11, .ref dq14, .int 0, .int 0, .int 0, .int 0, .int 0, .int 0, .int 0])), (dq1, .inr (2, [.int ((cellv L xs 0) &&& 63), .int ((cellv L xs 1) &&& 255), .int ((cellv L xs 2) &&& 16777215), .int 0, .int 0, .int 0, .int 10000, .int 3, .int 3, .int 0, .int 0, .int 1, .ref dq2, .ref dq4])), (dq2, .inl (dk3, 6, .inl (upd (upd (upd (upd (upd (upd (fun _ => 0) 0 32) 1 32) 2 32) 3 32) 4 32) 5 32))), (dq4, .inl (dk5, 4, .inl (fun _ => 0))), (dq6, .inr (0, [.int 0, .int 0, .int 0, .int 0, .ref dq7, .ref dq9, .int 0, .int 0, .int 0, .int 0])), (dq7, .inl (dk8, 5, .inl (fun _ => 0))), (dq9, .inl (dk10, 20, .inl (fun _ => 0))), (dq11, .inr (1, [.ref dq12, .int 0, .int 0, .int 0, .int 0])), (dq12, .inl (dk13, 36, .inl (fun _ => 0))), (dq14, .inr (3, [.int 0, .ref dq15, .ref dq17])), (dq15, .inl (dk16, 2000, .inl (fun _ => 0))), (dq17, .inl (dk18, 2000, .inl (fun _ => 0)))]) hP hD [0] [] rfl rfl (by decide) (by decide) hk1 hFc hP1 hD1
  have hK := (hK.sub (tys' := []) [] rfl).app hK1
  generalize H1 = H at hP hS ⊢
  obtain ⟨g, hg⟩ : ∃ g : Gv, g = (fun k => [q0v, dq1, dq6, dq11, dq14, dq2, dq4, dq7, dq9, dq12, dq15, dq17].getD k 0, fun r => [dk3, dk5, dk8, dk10, dk13, dk16, dk18].getD r dk3) := ⟨_, rfl⟩
  have hP : va_P (dC, dI) vwCl (wD g (zI (cellv L xs 0) (cellv L xs 1) (cellv L xs 2))) H := hP.sub [0, 1, 4, 7, 9, 2, 3, 5, 6, 8, 10, 11] (by subst hg; rfl)
  have hD : va_D (fun q : Nat => s.heap.size ≤ q) (wD g (zI (cellv L xs 0) (cellv L xs 1) (cellv L xs 2))) := hD.sub [0, 1, 4, 7, 9, 2, 3, 5, 6, 8, 10, 11] (by decide) (by subst hg; rfl)
  have hK : va_K (dC, dI) vwCl (tD g) s := hK.sub [0, 1, 2, 3, 4, 5, 6] (by subst hg; rfl)
  have hg0 : q0v = g.1 0 := by subst hg; rfl
  rw [hg0]
  refine W.widen (k := 12) (n := 4114) (by omega) (by omega) ?_
  refine lv_astore_n (lv' := [(1, .ref (g.1 0)), (0, .ref b)]) hx hb dL_law_22 rfl hl (by decide) rfl (fun ls hl => ?_)
  refine va_new (ci := 5) (fs := [.int 0, .null, .int 0, .null, .null, .int 0, .int 0, .int 0, .null, .null, .int 0, .int 0, .int 0, .int 0, .int 0, .int 0, .null, .null, .int 0, .long 0, .long 0, .int 0, .int 0, .int 0, .int 0, .int 0, .null, .null]) (C := RX5) (T := TX5) (N := 28) hx hb hts inlX5 tyX5 tyX5_ok hown (hts _ kq_L_18) (hts _ kt_X5) (hts _ kn_X5) hK hP hD hS hA rfl (fun j hj => by rcases (show j = 0 ∨ j = 1 ∨ j = 2 ∨ j = 3 ∨ j = 4 ∨ j = 5 ∨ j = 6 ∨ j = 7 ∨ j = 8 ∨ j = 9 ∨ j = 10 ∨ j = 11 ∨ j = 12 ∨ j = 13 ∨ j = 14 ∨ j = 15 ∨ j = 16 ∨ j = 17 ∨ j = 18 ∨ j = 19 ∨ j = 20 ∨ j = 21 ∨ j = 22 ∨ j = 23 ∨ j = 24 ∨ j = 25 ∨ j = 26 ∨ j = 27 by omega) with rfl | rfl | rfl | rfl | rfl | rfl | rfl | rfl | rfl | rfl | rfl | rfl | rfl | rfl | rfl | rfl | rfl | rfl | rfl | rfl | rfl | rfl | rfl | rfl | rfl | rfl | rfl | rfl <;> rfl) (Nat.le_of_ble_eq_true rfl) (Nat.le_of_ble_eq_true rfl) dL_law_23 (fun q0m H hP hD hS => ?_)
  have hP : va_P (dC, dI) vwCl ((wD g (zI (cellv L xs 0) (cellv L xs 1) (cellv L xs 2))) ++ [(q0m, .inr (5, [.int 0, .null, .int 0, .null, .null, .int 0, .int 0, .int 0, .null, .null, .int 0, .int 0, .int 0, .int 0, .int 0, .int 0, .null, .null, .int 0, .long 0, .long 0, .int 0, .int 0, .int 0, .int 0, .int 0, .null, .null]))]) H := hP
  have hD : va_D (fun q : Nat => s.heap.size ≤ q) ((wD g (zI (cellv L xs 0) (cellv L xs 1) (cellv L xs 2))) ++ [(q0m, .inr (5, [.int 0, .null, .int 0, .null, .null, .int 0, .int 0, .int 0, .null, .null, .int 0, .int 0, .int 0, .int 0, .int 0, .int 0, .null, .null, .int 0, .long 0, .long 0, .int 0, .int 0, .int 0, .int 0, .int 0, .null, .null]))]) := hD
  refine W.widen (k := 13) (n := 4142) (by omega) (by omega) ?_
  refine lv_dup hx hb dL_law_26 rfl ?_
  refine lv_aload_n hx hb dL_law_27 rfl (lv_at hl 1 rfl) ?_
  refine lv_iconst (v := nI 0) hx hb dL_law_28 (by decide) ?_
  refine lw_cell (rest := [.ref q0m, .ref q0m]) S (by omega) hL hX hbl hbA hS ⟨Nat.le_of_ble_eq_true rfl, Nat.le_of_ble_eq_true rfl⟩ hl.1 (Nat.le_of_ble_eq_true rfl) ⟨Nat.le_of_ble_eq_true rfl, Nat.le_of_ble_eq_true rfl⟩ dL_law_29 ?_
  refine lv_aload_n hx hb dL_law_32 rfl (lv_at hl 1 rfl) ?_
  refine lv_iconst (v := nI 1) hx hb dL_law_33 (by decide) ?_
  refine lw_cell (rest := (.int (cellv L xs 0) :: [.ref q0m, .ref q0m])) S (by omega) hL hX hbl hbA hS ⟨Nat.le_of_ble_eq_true rfl, Nat.le_of_ble_eq_true rfl⟩ hl.1 (Nat.le_of_ble_eq_true rfl) ⟨Nat.le_of_ble_eq_true rfl, Nat.le_of_ble_eq_true rfl⟩ dL_law_34 ?_
  refine lv_aload_n hx hb dL_law_37 rfl (lv_at hl 1 rfl) ?_
  refine lv_iconst (v := nI 2) hx hb dL_law_38 (by decide) ?_
  refine lw_cell (rest := (.int (cellv L xs 1) :: (.int (cellv L xs 0) :: [.ref q0m, .ref q0m]))) S (by omega) hL hX hbl hbA hS ⟨Nat.le_of_ble_eq_true rfl, Nat.le_of_ble_eq_true rfl⟩ hl.1 (Nat.le_of_ble_eq_true rfl) ⟨Nat.le_of_ble_eq_true rfl, Nat.le_of_ble_eq_true rfl⟩ dL_law_39 ?_
  have hPc := hP.sub (ws' := [(q0m, .inr (5, [.int 0, .null, .int 0, .null, .null, .int 0, .int 0, .int 0, .null, .null, .int 0, .int 0, .int 0, .int 0, .int 0, .int 0, .null, .null, .int 0, .long 0, .long 0, .int 0, .int 0, .int 0, .int 0, .int 0, .null, .null]))]) [12] rfl
  have hDc := hD.sub (ws' := [(q0m, .inr (5, [.int 0, .null, .int 0, .null, .null, .int 0, .int 0, .int 0, .null, .null, .int 0, .int 0, .int 0, .int 0, .int 0, .int 0, .null, .null, .int 0, .long 0, .long 0, .int 0, .int 0, .int 0, .int 0, .int 0, .null, .null]))]) [12] (by decide) rfl
  have hKc := hK.sub (tys' := []) [] rfl
  have hFc := va_free (wc := [(q0m, .inr (5, [.int 0, .null, .int 0, .null, .null, .int 0, .int 0, .int 0, .null, .null, .int 0, .int 0, .int 0, .int 0, .int 0, .int 0, .null, .null, .int 0, .long 0, .long 0, .int 0, .int 0, .int 0, .int 0, .int 0, .null, .null]))]) hD hS hA [12] rfl
  refine va_callv (va_runI (As := [.int (cellv L xs 0), .int (cellv L xs 1), .int (cellv L xs 2)]) (rest := [.ref q0m]) S (c_X5_init l (dC, dI) q0m H.size (cellv L xs 0) (cellv L xs 1) (cellv L xs 2)) (cwI 3 hts (wG_in kc_yX5_init) rfl rfl rfl (hts _ kn_X5) (hts _ km_L_20) (hts _ ki_yX5_init) rfl (by decide +kernel) ⟨Nat.le_of_ble_eq_true rfl, Nat.le_of_ble_eq_true rfl⟩) ⟨fun a U g mk q => by obtain ⟨q0, q1, qP, qK, qD⟩ := q; exact ⟨q0, q1, qP, va_K.moved (u := U) (U := U.calling g mk a) (Vm.Alike.refl U.vm) qK, qD⟩, fun U hU hW => ⟨rfl, by rw [hU], by rw [hU]; exact hPc, va_K.moved hW.alike hKc, hDc.weaken (fun _ _ _ _ => trivial)⟩⟩ rfl rfl hl.1 rfl (lv_room (Nat.le_of_ble_eq_true rfl)) dL_law_42 ⟨Nat.le_of_ble_eq_true rfl, Nat.le_of_ble_eq_true rfl⟩) hS (fun q _ h => hFc q h) hFc (fun u t H1 locs ht hvm hw hB hz1 hk1 hS => ?_)
  obtain ⟨mq1, mk1, mq2, mk2, mq3, mk3, mq4, mk4, mq5, mk5, mq6, mk6, mq7, mk7, mq8, mk8, mq9, mk9⟩ := u
  obtain ⟨hP1, hK1, hD1⟩ := hB
  rw [ht] at hP1
  have hK1 := va_K.moved hvm.symm hK1
  obtain ⟨hP, hD⟩ := va_join (wr := (wD g (zI (cellv L xs 0) (cellv L xs 1) (cellv L xs 2)))) (w1 := [(q0m, .inr (5, [.int 0, .ref mq1, .int 0, .ref mq2, .ref mq3, .int 0, .int 0, .int 10000, .ref mq4, .ref mq5, .int 0, .int 0, .int 1, .int 0, .int 0, .int 0, .ref mq6, .ref mq7, .int 0, .long (-1 : Int64), .long (-1 : Int64), .int 0, .int 0, .int 0, .int 0, .int 0, .ref mq8, .ref mq9])), (mq1, .inl (mk1, 5, .inl (upd (upd (upd (upd (upd (fun _ => 0) 0 ((cellv L xs 0) &&& 63)) 1 ((cellv L xs 1) &&& 255)) 2 (((cellv L xs 2) >>> ((16 : Int32) &&& 31)) &&& 255)) 3 (((cellv L xs 2) >>> ((8 : Int32) &&& 31)) &&& 255)) 4 ((cellv L xs 2) &&& 255)))), (mq2, .inl (mk2, 6, .inl (upd (upd (upd (upd (upd (upd (fun _ => 0) 0 32) 1 32) 2 32) 3 32) 4 32) 5 32))), (mq3, .inl (mk3, 4, .inl (fun _ => 0))), (mq4, .inl (mk4, 2, .inl (upd (upd (fun _ => 0) 0 1) 1 1))), (mq5, .inl (mk5, 2, .inl (upd (upd (fun _ => 0) 0 1) 1 1))), (mq6, .inl (mk6, 40, .inl (fun _ => 0))), (mq7, .inl (mk7, 64, .inl (fun _ => 0))), (mq8, .inl (mk8, 2000, .inl (fun _ => 0))), (mq9, .inl (mk9, 2000, .inl (fun _ => 0)))]) hP hD [12] [0, 1, 2, 3, 4, 5, 6, 7, 8, 9, 10, 11] rfl rfl (by decide) (by decide) hk1 hFc hP1 hD1
  have hK := (hK.sub (tys' := tD g) [0, 1, 2, 3, 4, 5, 6] rfl).app hK1
  generalize H1 = H at hP hS ⊢
  obtain ⟨g', hg'⟩ : ∃ g : Gv, g = (fun k => [q0m, mq1, mq2, mq3, mq4, mq5, mq6, mq7, mq8, mq9].getD k 0, fun r => [mk1, mk2, mk3, mk4, mk5, mk6, mk7, mk8, mk9].getD r mk1) := ⟨_, rfl⟩
  have hP : va_P (dC, dI) vwCl ((wD g (zI (cellv L xs 0) (cellv L xs 1) (cellv L xs 2))) ++ (wM g' (wI (cellv L xs 0) (cellv L xs 1) (cellv L xs 2)))) H := hP.sub [0, 1, 2, 3, 4, 5, 6, 7, 8, 9, 10, 11, 12, 13, 14, 15, 16, 17, 18, 19, 20, 21] (by subst hg'; rfl)
  have hD : va_D (fun q : Nat => s.heap.size ≤ q) ((wD g (zI (cellv L xs 0) (cellv L xs 1) (cellv L xs 2))) ++ (wM g' (wI (cellv L xs 0) (cellv L xs 1) (cellv L xs 2)))) := hD.sub [0, 1, 2, 3, 4, 5, 6, 7, 8, 9, 10, 11, 12, 13, 14, 15, 16, 17, 18, 19, 20, 21] (by decide) (by subst hg'; rfl)
  have hK : va_K (dC, dI) vwCl (tD g ++ tM g') s := hK.sub [0, 1, 2, 3, 4, 5, 6, 7, 8, 9, 10, 11, 12, 13, 14, 15] (by subst hg'; rfl)
  have hg0 : q0m = g'.1 0 := by subst hg'; rfl
  rw [hg0]
  refine W.widen (k := 22) (n := 8265) (by omega) (by omega) ?_
  refine lv_astore_n (lv' := [(2, .ref (g'.1 0)), (1, .ref (g.1 0)), (0, .ref b)]) hx hb dL_law_45 rfl hl (by decide) rfl (fun ls hl => ?_)
  refine lv_iconst (v := 3) hx hb dL_law_46 (by decide) ?_
  refine lv_istore_n (lv' := [(3, .int 3), (2, .ref (g'.1 0)), (1, .ref (g.1 0)), (0, .ref b)]) hx hb dL_law_47 rfl hl (by decide) rfl (fun ls hl => ?_)
  exact law_loop hL C0 513 0 0 3 _ _ (by omega) (by omega) (by omega) rfl (rel_I (cellv L xs 0) (cellv L xs 1) (cellv L xs 2)) H _ ⟨hP, hK, hD, hS⟩ ls hl
