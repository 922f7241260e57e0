/-! the start, on both sides -/
def t6 (f : Nat → Int32) : Nat → Int32 := upd (upd (upd (upd (upd (upd f 0 32) 1 32) 2 32) 3 32) 4 32) 5 32
def zI (a b c : Int32) : Sg := (fun k => if k = 7 then a &&& 63 else if k = 8 then b &&& 255 else if k = 9 then c &&& 16777215 else if k = 13 then 10000 else if k = 14 then 3 else if k = 15 then 3 else if k = 18 then 1 else 0, fun _ => 0, fun r => if r = 0 then t6 (fun _ => 0) else fun _ => 0)
def o5 (a b c : Int32) : Nat → Int32 := upd (upd (upd (upd (upd (fun _ => 0) 0 (a &&& 63)) 1 (b &&& 255)) 2 ((c >>> ((16 : Int32) &&& 31)) &&& 255)) 3 ((c >>> ((8 : Int32) &&& 31)) &&& 255)) 4 (c &&& 255)
def wI (a b c : Int32) : Sg := (fun k => if k = 4 then 10000 else if k = 7 then 1 else 0, fun _ => -1, fun r => if r = 0 then o5 a b c else if r = 1 then t6 (fun _ => 0) else if r = 3 then upd (upd (fun _ => 0) 0 1) 1 1 else if r = 4 then upd (upd (fun _ => 0) 0 1) 1 1 else fun _ => 0)
theorem idn_I (a b c : Int32) : Idn (zI a b c) (wI a b c) := by
  have h7 : a &&& 63 = nI (a.toBitVec.toNat % 2 ^ 6) := pk_and a 6 (by decide)
  have h8 : b &&& 255 = nI (b.toBitVec.toNat % 2 ^ 8) := pk_and b 8 (by decide)
  have h9 : c &&& 16777215 = nI (c.toBitVec.toNat % 2 ^ 24) := pk_and c 24 (by decide)
  have h4 : c &&& 255 = nI (c.toBitVec.toNat % 2 ^ 8) := pk_and c 8 (by decide)
  have h3 : (c >>> ((8 : Int32) &&& 31)) &&& 255 = nI (c.toBitVec.toNat / 2 ^ 8 % 2 ^ 8) := by
    rw [← bv_sh8, pk_and _ 8 (by decide), pk_ushr c 8 8 (by decide)]
  have h2 : (c >>> ((16 : Int32) &&& 31)) &&& 255 = nI (c.toBitVec.toNat / 2 ^ 16 % 2 ^ 8) := by
    rw [← bv_sh16, pk_and _ 8 (by decide), pk_ushr c 16 16 (by decide)]
  generalize a.toBitVec.toNat = A at h7
  generalize b.toBitVec.toNat = B at h8
  generalize c.toBitVec.toNat = C at h9 h4 h3 h2
  refine ⟨A % 64, B % 256, C % 16777216, by omega, by omega, by omega, h7, h7, h8, h8, h9, ?_, ?_, ?_⟩
  · show (c >>> ((16 : Int32) &&& 31)) &&& 255 = _
    rw [h2]; congr 1; omega
  · show (c >>> ((8 : Int32) &&& 31)) &&& 255 = _
    rw [h3]; congr 1; omega
  · show c &&& 255 = _
    rw [h4]; congr 1; omega
theorem rel_I (a b c : Int32) : Rel 0 (zI a b c) (wI a b c) := by
  refine ⟨⟨⟨rfl, rfl, rfl, rfl, rfl, rfl, rfl, rfl, rfl, rfl, idn_I a b c, Or.inr (Or.inr (Or.inr ⟨rfl, rfl, rfl⟩)), Or.inr (Or.inr (Or.inr ⟨rfl, rfl, rfl⟩)), ⟨0, by omega, rfl⟩, ?_⟩, rfl, rfl, rfl, rfl, rfl, Or.inl rfl, rfl, rfl, rfl, ?_⟩, ⟨rfl, ⟨0, by omega, rfl, rfl⟩, ⟨0, by omega, rfl⟩⟩, ⟨?_, Or.inl ⟨rfl, rfl, 0, by omega, rfl, rfl⟩⟩, Or.inl ⟨rfl, 0, 0, by omega, by omega, rfl, rfl, by omega, rfl, rfl⟩, ⟨0, by omega, rfl, ?_, fun h => absurd h (by omega)⟩⟩
  · show (0 : Int32) < 10000; decide
  · intro j; show ¬ (0 : Int32) = -1; decide
  · intro j; exact ⟨0, by omega, rfl⟩
  · show (-1 : Int64) = lN 0 - 1; decide
