-- needs: 66 16
section ST1
variable {l : Launch} {V : gi_V} {n : Nat} {h h' h0 : gi_H} {a pr bu fr to : Nat} {S : Nat → Int32} {x y nx ny ar ou be ab : mV} {Wk Wy En Lo : mR}
def vS (x y nx ny ar ou be ab : mV) : Nat → mV := fun j => match j with
  | 0 => x
  | 1 => y
  | 2 => nx
  | 3 => ny
  | 4 => ar
  | 5 => ou
  | 6 => be
  | _ => ab
def rS4 (Wk Wy En Lo : mR) : Nat → mR := fun j => match j with
  | 0 => Wk
  | 1 => Wy
  | 2 => En
  | _ => Lo
/-- only the Stepper's own block has changed -/
def outS (a : Nat) (h h' : gi_H) : Prop := ∀ b, b < a ∨ a + 65 ≤ b → h' b = h b
/-- the Stepper at a, since h0 -/
def stO (a pr bu fr to : Nat) (h0 : gi_H) (S : Nat → Int32) (x y nx ny ar ou be ab : mV) (Wk Wy En Lo : mR) (h : gi_H) : Prop := sp_at a pr bu fr to S (vS x y nx ny ar ou be ab) (rS4 Wk Wy En Lo) h ∧ outS a h0 h
theorem stO.ob (P : stO a pr bu fr to h0 S x y nx ny ar ou be ab Wk Wy En Lo h) : h a = some (gi_O 6 [.int (S 0), .ref pr, .ref bu, .ref (a + 1), .ref fr, .ref to, .int (S 6), .int (S 7), .int (S 8), .ref (a + 4), .ref (a + 21), .ref (a + 38), .ref (a + 55), .ref (a + 59), .ref (a + 60), .ref (a + 61), .ref (a + 62), .ref (a + 63), .ref (a + 64)]) := P.1.1
theorem stO.re (P : stO a pr bu fr to h0 S x y nx ny ar ou be ab Wk Wy En Lo h) : re_at (a + 1) be ab h := P.1.2.1
theorem stO.wk (P : stO a pr bu fr to h0 S x y nx ny ar ou be ab Wk Wy En Lo h) : ro_at (a + 4) 14 Wk h := P.1.2.2.1
theorem stO.wy (P : stO a pr bu fr to h0 S x y nx ny ar ou be ab Wk Wy En Lo h) : ro_at (a + 21) 14 Wy h := P.1.2.2.2.1
theorem stO.en (P : stO a pr bu fr to h0 S x y nx ny ar ou be ab Wk Wy En Lo h) : ro_at (a + 38) 14 En h := P.1.2.2.2.2.1
theorem stO.lo (P : stO a pr bu fr to h0 S x y nx ny ar ou be ab Wk Wy En Lo h) : ro_at (a + 55) 1 Lo h := P.1.2.2.2.2.2.1
theorem stO.vx (P : stO a pr bu fr to h0 S x y nx ny ar ou be ab Wk Wy En Lo h) : h (a + 59) = some (eV x) := P.1.2.2.2.2.2.2.1
theorem stO.vy (P : stO a pr bu fr to h0 S x y nx ny ar ou be ab Wk Wy En Lo h) : h (a + 60) = some (eV y) := P.1.2.2.2.2.2.2.2.1
theorem stO.vnx (P : stO a pr bu fr to h0 S x y nx ny ar ou be ab Wk Wy En Lo h) : h (a + 61) = some (eV nx) := P.1.2.2.2.2.2.2.2.2.1
theorem stO.vny (P : stO a pr bu fr to h0 S x y nx ny ar ou be ab Wk Wy En Lo h) : h (a + 62) = some (eV ny) := P.1.2.2.2.2.2.2.2.2.2.1
theorem stO.var (P : stO a pr bu fr to h0 S x y nx ny ar ou be ab Wk Wy En Lo h) : h (a + 63) = some (eV ar) := P.1.2.2.2.2.2.2.2.2.2.2.1
theorem stO.vou (P : stO a pr bu fr to h0 S x y nx ny ar ou be ab Wk Wy En Lo h) : h (a + 64) = some (eV ou) := P.1.2.2.2.2.2.2.2.2.2.2.2
theorem stO.px (P : stO a pr bu fr to h0 S x y nx ny ar ou be ab Wk Wy En Lo h) (w : mV) : stO a pr bu fr to h0 S w y nx ny ar ou be ab Wk Wy En Lo (gi_up h (a + 59) (eV w)) := by
  obtain ⟨⟨p0, ⟨q0, q1, q2⟩, r0, r1, r2, r3, v0, v1, v2, v3, v4, v5⟩, po⟩ := P
  refine ⟨⟨(gi_up_ne (by omega)).trans p0, ⟨(gi_up_ne (by omega)).trans q0, (gi_up_ne (by omega)).trans q1, (gi_up_ne (by omega)).trans q2⟩, r0.keep (fun b b1 b2 => gi_up_ne (by omega)), r1.keep (fun b b1 b2 => gi_up_ne (by omega)), r2.keep (fun b b1 b2 => gi_up_ne (by omega)), r3.keep (fun b b1 b2 => gi_up_ne (by omega)), gi_up_self _ _ _, (gi_up_ne (by omega)).trans v1, (gi_up_ne (by omega)).trans v2, (gi_up_ne (by omega)).trans v3, (gi_up_ne (by omega)).trans v4, (gi_up_ne (by omega)).trans v5⟩, fun b hb => by rw [gi_up_ne (by omega)]; exact po b hb⟩
theorem stO.py (P : stO a pr bu fr to h0 S x y nx ny ar ou be ab Wk Wy En Lo h) (w : mV) : stO a pr bu fr to h0 S x w nx ny ar ou be ab Wk Wy En Lo (gi_up h (a + 60) (eV w)) := by
  obtain ⟨⟨p0, ⟨q0, q1, q2⟩, r0, r1, r2, r3, v0, v1, v2, v3, v4, v5⟩, po⟩ := P
  refine ⟨⟨(gi_up_ne (by omega)).trans p0, ⟨(gi_up_ne (by omega)).trans q0, (gi_up_ne (by omega)).trans q1, (gi_up_ne (by omega)).trans q2⟩, r0.keep (fun b b1 b2 => gi_up_ne (by omega)), r1.keep (fun b b1 b2 => gi_up_ne (by omega)), r2.keep (fun b b1 b2 => gi_up_ne (by omega)), r3.keep (fun b b1 b2 => gi_up_ne (by omega)), (gi_up_ne (by omega)).trans v0, gi_up_self _ _ _, (gi_up_ne (by omega)).trans v2, (gi_up_ne (by omega)).trans v3, (gi_up_ne (by omega)).trans v4, (gi_up_ne (by omega)).trans v5⟩, fun b hb => by rw [gi_up_ne (by omega)]; exact po b hb⟩
theorem stO.pnx (P : stO a pr bu fr to h0 S x y nx ny ar ou be ab Wk Wy En Lo h) (w : mV) : stO a pr bu fr to h0 S x y w ny ar ou be ab Wk Wy En Lo (gi_up h (a + 61) (eV w)) := by
  obtain ⟨⟨p0, ⟨q0, q1, q2⟩, r0, r1, r2, r3, v0, v1, v2, v3, v4, v5⟩, po⟩ := P
  refine ⟨⟨(gi_up_ne (by omega)).trans p0, ⟨(gi_up_ne (by omega)).trans q0, (gi_up_ne (by omega)).trans q1, (gi_up_ne (by omega)).trans q2⟩, r0.keep (fun b b1 b2 => gi_up_ne (by omega)), r1.keep (fun b b1 b2 => gi_up_ne (by omega)), r2.keep (fun b b1 b2 => gi_up_ne (by omega)), r3.keep (fun b b1 b2 => gi_up_ne (by omega)), (gi_up_ne (by omega)).trans v0, (gi_up_ne (by omega)).trans v1, gi_up_self _ _ _, (gi_up_ne (by omega)).trans v3, (gi_up_ne (by omega)).trans v4, (gi_up_ne (by omega)).trans v5⟩, fun b hb => by rw [gi_up_ne (by omega)]; exact po b hb⟩
theorem stO.pny (P : stO a pr bu fr to h0 S x y nx ny ar ou be ab Wk Wy En Lo h) (w : mV) : stO a pr bu fr to h0 S x y nx w ar ou be ab Wk Wy En Lo (gi_up h (a + 62) (eV w)) := by
  obtain ⟨⟨p0, ⟨q0, q1, q2⟩, r0, r1, r2, r3, v0, v1, v2, v3, v4, v5⟩, po⟩ := P
  refine ⟨⟨(gi_up_ne (by omega)).trans p0, ⟨(gi_up_ne (by omega)).trans q0, (gi_up_ne (by omega)).trans q1, (gi_up_ne (by omega)).trans q2⟩, r0.keep (fun b b1 b2 => gi_up_ne (by omega)), r1.keep (fun b b1 b2 => gi_up_ne (by omega)), r2.keep (fun b b1 b2 => gi_up_ne (by omega)), r3.keep (fun b b1 b2 => gi_up_ne (by omega)), (gi_up_ne (by omega)).trans v0, (gi_up_ne (by omega)).trans v1, (gi_up_ne (by omega)).trans v2, gi_up_self _ _ _, (gi_up_ne (by omega)).trans v4, (gi_up_ne (by omega)).trans v5⟩, fun b hb => by rw [gi_up_ne (by omega)]; exact po b hb⟩
theorem stO.par (P : stO a pr bu fr to h0 S x y nx ny ar ou be ab Wk Wy En Lo h) (w : mV) : stO a pr bu fr to h0 S x y nx ny w ou be ab Wk Wy En Lo (gi_up h (a + 63) (eV w)) := by
  obtain ⟨⟨p0, ⟨q0, q1, q2⟩, r0, r1, r2, r3, v0, v1, v2, v3, v4, v5⟩, po⟩ := P
  refine ⟨⟨(gi_up_ne (by omega)).trans p0, ⟨(gi_up_ne (by omega)).trans q0, (gi_up_ne (by omega)).trans q1, (gi_up_ne (by omega)).trans q2⟩, r0.keep (fun b b1 b2 => gi_up_ne (by omega)), r1.keep (fun b b1 b2 => gi_up_ne (by omega)), r2.keep (fun b b1 b2 => gi_up_ne (by omega)), r3.keep (fun b b1 b2 => gi_up_ne (by omega)), (gi_up_ne (by omega)).trans v0, (gi_up_ne (by omega)).trans v1, (gi_up_ne (by omega)).trans v2, (gi_up_ne (by omega)).trans v3, gi_up_self _ _ _, (gi_up_ne (by omega)).trans v5⟩, fun b hb => by rw [gi_up_ne (by omega)]; exact po b hb⟩
theorem stO.pou (P : stO a pr bu fr to h0 S x y nx ny ar ou be ab Wk Wy En Lo h) (w : mV) : stO a pr bu fr to h0 S x y nx ny ar w be ab Wk Wy En Lo (gi_up h (a + 64) (eV w)) := by
  obtain ⟨⟨p0, ⟨q0, q1, q2⟩, r0, r1, r2, r3, v0, v1, v2, v3, v4, v5⟩, po⟩ := P
  refine ⟨⟨(gi_up_ne (by omega)).trans p0, ⟨(gi_up_ne (by omega)).trans q0, (gi_up_ne (by omega)).trans q1, (gi_up_ne (by omega)).trans q2⟩, r0.keep (fun b b1 b2 => gi_up_ne (by omega)), r1.keep (fun b b1 b2 => gi_up_ne (by omega)), r2.keep (fun b b1 b2 => gi_up_ne (by omega)), r3.keep (fun b b1 b2 => gi_up_ne (by omega)), (gi_up_ne (by omega)).trans v0, (gi_up_ne (by omega)).trans v1, (gi_up_ne (by omega)).trans v2, (gi_up_ne (by omega)).trans v3, (gi_up_ne (by omega)).trans v4, gi_up_self _ _ _⟩, fun b hb => by rw [gi_up_ne (by omega)]; exact po b hb⟩
theorem stO.pre (P : stO a pr bu fr to h0 S x y nx ny ar ou be ab Wk Wy En Lo h) (w w' z : mV) : stO a pr bu fr to h0 S x y nx ny ar z w w' Wk Wy En Lo (gi_up (gi_up (gi_up h (a + 1 + 1) (eV w)) (a + 1 + 2) (eV w')) (a + 64) (eV z)) := by
  obtain ⟨⟨p0, ⟨q0, q1, q2⟩, r0, r1, r2, r3, v0, v1, v2, v3, v4, v5⟩, po⟩ := P
  have ne : ∀ {b : Nat}, b ≠ a + 1 + 1 → b ≠ a + 1 + 2 → b ≠ a + 64 → gi_up (gi_up (gi_up h (a + 1 + 1) (eV w)) (a + 1 + 2) (eV w')) (a + 64) (eV z) b = h b := fun h1 h2 h3 => by rw [gi_up_ne h3, gi_up_ne h2, gi_up_ne h1]
  refine ⟨⟨(ne (by omega) (by omega) (by omega)).trans p0, ⟨(ne (by omega) (by omega) (by omega)).trans q0, ?_, ?_⟩, r0.keep (fun b b1 b2 => ne (by omega) (by omega) (by omega)), r1.keep (fun b b1 b2 => ne (by omega) (by omega) (by omega)), r2.keep (fun b b1 b2 => ne (by omega) (by omega) (by omega)), r3.keep (fun b b1 b2 => ne (by omega) (by omega) (by omega)), (ne (by omega) (by omega) (by omega)).trans v0, (ne (by omega) (by omega) (by omega)).trans v1, (ne (by omega) (by omega) (by omega)).trans v2, (ne (by omega) (by omega) (by omega)).trans v3, (ne (by omega) (by omega) (by omega)).trans v4, gi_up_self _ _ _⟩, fun b hb => (ne (by omega) (by omega) (by omega)).trans (po b hb)⟩
  · rw [gi_up_ne (by omega), gi_up_ne (by omega), gi_up_self]
    rfl
  · rw [gi_up_ne (by omega), gi_up_self]
    rfl
theorem stO.rWk {R' : mR} (P : stO a pr bu fr to h0 S x y nx ny ar ou be ab Wk Wy En Lo h) (hr : ro_at (a + 4) 14 R' h') (ho : outR (a + 4) 14 h h') : stO a pr bu fr to h0 S x y nx ny ar ou be ab R' Wy En Lo h' := by
  obtain ⟨⟨p0, ⟨q0, q1, q2⟩, r0, r1, r2, r3, v0, v1, v2, v3, v4, v5⟩, po⟩ := P
  exact ⟨⟨(ho _ (by omega)).trans p0, ⟨(ho _ (by omega)).trans q0, (ho _ (by omega)).trans q1, (ho _ (by omega)).trans q2⟩, hr, r1.keep (fun b b1 b2 => ho b (by omega)), r2.keep (fun b b1 b2 => ho b (by omega)), r3.keep (fun b b1 b2 => ho b (by omega)), (ho _ (by omega)).trans v0, (ho _ (by omega)).trans v1, (ho _ (by omega)).trans v2, (ho _ (by omega)).trans v3, (ho _ (by omega)).trans v4, (ho _ (by omega)).trans v5⟩, fun b hb => (ho b (by omega)).trans (po b hb)⟩
theorem stO.rWy {R' : mR} (P : stO a pr bu fr to h0 S x y nx ny ar ou be ab Wk Wy En Lo h) (hr : ro_at (a + 21) 14 R' h') (ho : outR (a + 21) 14 h h') : stO a pr bu fr to h0 S x y nx ny ar ou be ab Wk R' En Lo h' := by
  obtain ⟨⟨p0, ⟨q0, q1, q2⟩, r0, r1, r2, r3, v0, v1, v2, v3, v4, v5⟩, po⟩ := P
  exact ⟨⟨(ho _ (by omega)).trans p0, ⟨(ho _ (by omega)).trans q0, (ho _ (by omega)).trans q1, (ho _ (by omega)).trans q2⟩, r0.keep (fun b b1 b2 => ho b (by omega)), hr, r2.keep (fun b b1 b2 => ho b (by omega)), r3.keep (fun b b1 b2 => ho b (by omega)), (ho _ (by omega)).trans v0, (ho _ (by omega)).trans v1, (ho _ (by omega)).trans v2, (ho _ (by omega)).trans v3, (ho _ (by omega)).trans v4, (ho _ (by omega)).trans v5⟩, fun b hb => (ho b (by omega)).trans (po b hb)⟩
theorem stO.rEn {R' : mR} (P : stO a pr bu fr to h0 S x y nx ny ar ou be ab Wk Wy En Lo h) (hr : ro_at (a + 38) 14 R' h') (ho : outR (a + 38) 14 h h') : stO a pr bu fr to h0 S x y nx ny ar ou be ab Wk Wy R' Lo h' := by
  obtain ⟨⟨p0, ⟨q0, q1, q2⟩, r0, r1, r2, r3, v0, v1, v2, v3, v4, v5⟩, po⟩ := P
  exact ⟨⟨(ho _ (by omega)).trans p0, ⟨(ho _ (by omega)).trans q0, (ho _ (by omega)).trans q1, (ho _ (by omega)).trans q2⟩, r0.keep (fun b b1 b2 => ho b (by omega)), r1.keep (fun b b1 b2 => ho b (by omega)), hr, r3.keep (fun b b1 b2 => ho b (by omega)), (ho _ (by omega)).trans v0, (ho _ (by omega)).trans v1, (ho _ (by omega)).trans v2, (ho _ (by omega)).trans v3, (ho _ (by omega)).trans v4, (ho _ (by omega)).trans v5⟩, fun b hb => (ho b (by omega)).trans (po b hb)⟩
theorem stO.rLo {R' : mR} (P : stO a pr bu fr to h0 S x y nx ny ar ou be ab Wk Wy En Lo h) (hr : ro_at (a + 55) 1 R' h') (ho : outR (a + 55) 1 h h') : stO a pr bu fr to h0 S x y nx ny ar ou be ab Wk Wy En R' h' := by
  obtain ⟨⟨p0, ⟨q0, q1, q2⟩, r0, r1, r2, r3, v0, v1, v2, v3, v4, v5⟩, po⟩ := P
  exact ⟨⟨(ho _ (by omega)).trans p0, ⟨(ho _ (by omega)).trans q0, (ho _ (by omega)).trans q1, (ho _ (by omega)).trans q2⟩, r0.keep (fun b b1 b2 => ho b (by omega)), r1.keep (fun b b1 b2 => ho b (by omega)), r2.keep (fun b b1 b2 => ho b (by omega)), hr, (ho _ (by omega)).trans v0, (ho _ (by omega)).trans v1, (ho _ (by omega)).trans v2, (ho _ (by omega)).trans v3, (ho _ (by omega)).trans v4, (ho _ (by omega)).trans v5⟩, fun b hb => (ho b (by omega)).trans (po b hb)⟩
theorem stO.ox {R' : mR} {w : mV} (P : stO a pr bu fr to h0 S x y nx ny ar ou be ab Wk Wy En Lo h) (hr : ro_at (a + 4) 14 R' h') (hv : h' (a + 59) = some (eV w)) (ho : ∀ b, b ≠ a + 4 → b ≠ a + 59 → h' b = h b) : stO a pr bu fr to h0 S w y nx ny ar ou be ab R' Wy En Lo h' := by
  obtain ⟨⟨p0, ⟨q0, q1, q2⟩, r0, r1, r2, r3, v0, v1, v2, v3, v4, v5⟩, po⟩ := P
  exact ⟨⟨(ho _ (by omega) (by omega)).trans p0, ⟨(ho _ (by omega) (by omega)).trans q0, (ho _ (by omega) (by omega)).trans q1, (ho _ (by omega) (by omega)).trans q2⟩, hr, r1.keep (fun b b1 b2 => ho b (by omega) (by omega)), r2.keep (fun b b1 b2 => ho b (by omega) (by omega)), r3.keep (fun b b1 b2 => ho b (by omega) (by omega)), hv, (ho _ (by omega) (by omega)).trans v1, (ho _ (by omega) (by omega)).trans v2, (ho _ (by omega) (by omega)).trans v3, (ho _ (by omega) (by omega)).trans v4, (ho _ (by omega) (by omega)).trans v5⟩, fun b hb => (ho b (by omega) (by omega)).trans (po b hb)⟩
theorem stO.oy {R' : mR} {w : mV} (P : stO a pr bu fr to h0 S x y nx ny ar ou be ab Wk Wy En Lo h) (hr : ro_at (a + 4) 14 R' h') (hv : h' (a + 60) = some (eV w)) (ho : ∀ b, b ≠ a + 4 → b ≠ a + 60 → h' b = h b) : stO a pr bu fr to h0 S x w nx ny ar ou be ab R' Wy En Lo h' := by
  obtain ⟨⟨p0, ⟨q0, q1, q2⟩, r0, r1, r2, r3, v0, v1, v2, v3, v4, v5⟩, po⟩ := P
  exact ⟨⟨(ho _ (by omega) (by omega)).trans p0, ⟨(ho _ (by omega) (by omega)).trans q0, (ho _ (by omega) (by omega)).trans q1, (ho _ (by omega) (by omega)).trans q2⟩, hr, r1.keep (fun b b1 b2 => ho b (by omega) (by omega)), r2.keep (fun b b1 b2 => ho b (by omega) (by omega)), r3.keep (fun b b1 b2 => ho b (by omega) (by omega)), (ho _ (by omega) (by omega)).trans v0, hv, (ho _ (by omega) (by omega)).trans v2, (ho _ (by omega) (by omega)).trans v3, (ho _ (by omega) (by omega)).trans v4, (ho _ (by omega) (by omega)).trans v5⟩, fun b hb => (ho b (by omega) (by omega)).trans (po b hb)⟩
theorem stO.onx {R' : mR} {w : mV} (P : stO a pr bu fr to h0 S x y nx ny ar ou be ab Wk Wy En Lo h) (hr : ro_at (a + 4) 14 R' h') (hv : h' (a + 61) = some (eV w)) (ho : ∀ b, b ≠ a + 4 → b ≠ a + 61 → h' b = h b) : stO a pr bu fr to h0 S x y w ny ar ou be ab R' Wy En Lo h' := by
  obtain ⟨⟨p0, ⟨q0, q1, q2⟩, r0, r1, r2, r3, v0, v1, v2, v3, v4, v5⟩, po⟩ := P
  exact ⟨⟨(ho _ (by omega) (by omega)).trans p0, ⟨(ho _ (by omega) (by omega)).trans q0, (ho _ (by omega) (by omega)).trans q1, (ho _ (by omega) (by omega)).trans q2⟩, hr, r1.keep (fun b b1 b2 => ho b (by omega) (by omega)), r2.keep (fun b b1 b2 => ho b (by omega) (by omega)), r3.keep (fun b b1 b2 => ho b (by omega) (by omega)), (ho _ (by omega) (by omega)).trans v0, (ho _ (by omega) (by omega)).trans v1, hv, (ho _ (by omega) (by omega)).trans v3, (ho _ (by omega) (by omega)).trans v4, (ho _ (by omega) (by omega)).trans v5⟩, fun b hb => (ho b (by omega) (by omega)).trans (po b hb)⟩
theorem stO.ony {R' : mR} {w : mV} (P : stO a pr bu fr to h0 S x y nx ny ar ou be ab Wk Wy En Lo h) (hr : ro_at (a + 4) 14 R' h') (hv : h' (a + 62) = some (eV w)) (ho : ∀ b, b ≠ a + 4 → b ≠ a + 62 → h' b = h b) : stO a pr bu fr to h0 S x y nx w ar ou be ab R' Wy En Lo h' := by
  obtain ⟨⟨p0, ⟨q0, q1, q2⟩, r0, r1, r2, r3, v0, v1, v2, v3, v4, v5⟩, po⟩ := P
  exact ⟨⟨(ho _ (by omega) (by omega)).trans p0, ⟨(ho _ (by omega) (by omega)).trans q0, (ho _ (by omega) (by omega)).trans q1, (ho _ (by omega) (by omega)).trans q2⟩, hr, r1.keep (fun b b1 b2 => ho b (by omega) (by omega)), r2.keep (fun b b1 b2 => ho b (by omega) (by omega)), r3.keep (fun b b1 b2 => ho b (by omega) (by omega)), (ho _ (by omega) (by omega)).trans v0, (ho _ (by omega) (by omega)).trans v1, (ho _ (by omega) (by omega)).trans v2, hv, (ho _ (by omega) (by omega)).trans v4, (ho _ (by omega) (by omega)).trans v5⟩, fun b hb => (ho b (by omega) (by omega)).trans (po b hb)⟩
theorem stO.oar {R' : mR} {w : mV} (P : stO a pr bu fr to h0 S x y nx ny ar ou be ab Wk Wy En Lo h) (hr : ro_at (a + 4) 14 R' h') (hv : h' (a + 63) = some (eV w)) (ho : ∀ b, b ≠ a + 4 → b ≠ a + 63 → h' b = h b) : stO a pr bu fr to h0 S x y nx ny w ou be ab R' Wy En Lo h' := by
  obtain ⟨⟨p0, ⟨q0, q1, q2⟩, r0, r1, r2, r3, v0, v1, v2, v3, v4, v5⟩, po⟩ := P
  exact ⟨⟨(ho _ (by omega) (by omega)).trans p0, ⟨(ho _ (by omega) (by omega)).trans q0, (ho _ (by omega) (by omega)).trans q1, (ho _ (by omega) (by omega)).trans q2⟩, hr, r1.keep (fun b b1 b2 => ho b (by omega) (by omega)), r2.keep (fun b b1 b2 => ho b (by omega) (by omega)), r3.keep (fun b b1 b2 => ho b (by omega) (by omega)), (ho _ (by omega) (by omega)).trans v0, (ho _ (by omega) (by omega)).trans v1, (ho _ (by omega) (by omega)).trans v2, (ho _ (by omega) (by omega)).trans v3, hv, (ho _ (by omega) (by omega)).trans v5⟩, fun b hb => (ho b (by omega) (by omega)).trans (po b hb)⟩
theorem stO.oou {R' : mR} {w : mV} (P : stO a pr bu fr to h0 S x y nx ny ar ou be ab Wk Wy En Lo h) (hr : ro_at (a + 4) 14 R' h') (hv : h' (a + 64) = some (eV w)) (ho : ∀ b, b ≠ a + 4 → b ≠ a + 64 → h' b = h b) : stO a pr bu fr to h0 S x y nx ny ar w be ab R' Wy En Lo h' := by
  obtain ⟨⟨p0, ⟨q0, q1, q2⟩, r0, r1, r2, r3, v0, v1, v2, v3, v4, v5⟩, po⟩ := P
  exact ⟨⟨(ho _ (by omega) (by omega)).trans p0, ⟨(ho _ (by omega) (by omega)).trans q0, (ho _ (by omega) (by omega)).trans q1, (ho _ (by omega) (by omega)).trans q2⟩, hr, r1.keep (fun b b1 b2 => ho b (by omega) (by omega)), r2.keep (fun b b1 b2 => ho b (by omega) (by omega)), r3.keep (fun b b1 b2 => ho b (by omega) (by omega)), (ho _ (by omega) (by omega)).trans v0, (ho _ (by omega) (by omega)).trans v1, (ho _ (by omega) (by omega)).trans v2, (ho _ (by omega) (by omega)).trans v3, (ho _ (by omega) (by omega)).trans v4, hv⟩, fun b hb => (ho b (by omega) (by omega)).trans (po b hb)⟩
theorem stO.pO (P : stO a pr bu fr to h0 S x y nx ny ar ou be ab Wk Wy En Lo h) (fr' to' : Nat) (S' : Nat → Int32) : stO a pr bu fr' to' h0 S' x y nx ny ar ou be ab Wk Wy En Lo (gi_up h a (gi_O 6 [.int (S' 0), .ref pr, .ref bu, .ref (a + 1), .ref fr', .ref to', .int (S' 6), .int (S' 7), .int (S' 8), .ref (a + 4), .ref (a + 21), .ref (a + 38), .ref (a + 55), .ref (a + 59), .ref (a + 60), .ref (a + 61), .ref (a + 62), .ref (a + 63), .ref (a + 64)])) := by
  obtain ⟨⟨p0, ⟨q0, q1, q2⟩, r0, r1, r2, r3, v0, v1, v2, v3, v4, v5⟩, po⟩ := P
  refine ⟨⟨gi_up_self _ _ _, ⟨(gi_up_ne (by omega)).trans q0, (gi_up_ne (by omega)).trans q1, (gi_up_ne (by omega)).trans q2⟩, r0.keep (fun b b1 b2 => gi_up_ne (by omega)), r1.keep (fun b b1 b2 => gi_up_ne (by omega)), r2.keep (fun b b1 b2 => gi_up_ne (by omega)), r3.keep (fun b b1 b2 => gi_up_ne (by omega)), (gi_up_ne (by omega)).trans v0, (gi_up_ne (by omega)).trans v1, (gi_up_ne (by omega)).trans v2, (gi_up_ne (by omega)).trans v3, (gi_up_ne (by omega)).trans v4, (gi_up_ne (by omega)).trans v5⟩, fun b hb => by rw [gi_up_ne (by omega)]; exact po b hb⟩
theorem stO.ext (P : stO a pr bu fr to h0 S x y nx ny ar ou be ab Wk Wy En Lo h) (ho : ∀ b, a ≤ b → b < a + 65 → h' b = h b) : stO a pr bu fr to h' S x y nx ny ar ou be ab Wk Wy En Lo h' := by
  obtain ⟨⟨p0, ⟨q0, q1, q2⟩, r0, r1, r2, r3, v0, v1, v2, v3, v4, v5⟩, po⟩ := P
  have K : ∀ {b : Nat}, a ≤ b → b < a + 65 → h' b = h b := fun h1 h2 => ho _ h1 h2
  exact ⟨⟨(K (by omega) (by omega)).trans p0, ⟨(K (by omega) (by omega)).trans q0, (K (by omega) (by omega)).trans q1, (K (by omega) (by omega)).trans q2⟩, r0.keep (fun b b1 b2 => K (by omega) (by omega)), r1.keep (fun b b1 b2 => K (by omega) (by omega)), r2.keep (fun b b1 b2 => K (by omega) (by omega)), r3.keep (fun b b1 b2 => K (by omega) (by omega)), (K (by omega) (by omega)).trans v0, (K (by omega) (by omega)).trans v1, (K (by omega) (by omega)).trans v2, (K (by omega) (by omega)).trans v3, (K (by omega) (by omega)).trans v4, (K (by omega) (by omega)).trans v5⟩, fun b hb => rfl⟩
set_option maxHeartbeats 4000000 in
set_option maxRecDepth 100000 in
theorem c_St_prepare (m : Int32) (f t : Nat) (P : stO a pr bu fr to h0 S x y nx ny ar ou be ab Wk Wy En Lo h) : gi_T l V y_St_prepare b_St_prepare 4 none 0 0 0 0 [.ref a, .int m, .ref f, .ref t] n h (fun v n' h' => v = none ∧ n' = n ∧ stO a pr bu f t h0 (upS (upS S 6 m) 0 0) x y nx ny ar ou be ab Wk Wy En Lo h') := by
  refine gi_enter (by decide) (Nat.le_of_ble_eq_true rfl) ?_
  intro _ _ _ _ _ _ _ _ C hr hnm
  have p0 := P.ob
  refine gi_aload_n (q := 1) (i := 0) C (dm_St_prepare 0 rfl) rfl rfl rfl ?_
  refine gi_iload_n (q := 2) (i := 1) C (dm_St_prepare 1 rfl) rfl rfl rfl ?_
  refine gi_put (q := 5) C (dm_St_prepare 2 rfl) rfl fl_St_73 fp_St_6 (by repeat (first | exact gi_up_self _ _ _ | assumption | rw [gi_up_ne (by omega)])) (Nat.le_of_ble_eq_true rfl) rfl rfl ?_
  refine gi_aload_n (q := 6) (i := 0) C (dm_St_prepare 3 rfl) rfl rfl rfl ?_
  refine gi_aload_n (q := 7) (i := 2) C (dm_St_prepare 4 rfl) rfl rfl rfl ?_
  refine gi_put (q := 10) C (dm_St_prepare 5 rfl) rfl fl_St_66 fp_St_4 (by repeat (first | exact gi_up_self _ _ _ | assumption | rw [gi_up_ne (by omega)])) (Nat.le_of_ble_eq_true rfl) rfl rfl ?_
  refine gi_aload_n (q := 11) (i := 0) C (dm_St_prepare 6 rfl) rfl rfl rfl ?_
  refine gi_aload_n (q := 12) (i := 3) C (dm_St_prepare 7 rfl) rfl rfl rfl ?_
  refine gi_put (q := 15) C (dm_St_prepare 8 rfl) rfl fl_St_70 fp_St_5 (by repeat (first | exact gi_up_self _ _ _ | assumption | rw [gi_up_ne (by omega)])) (Nat.le_of_ble_eq_true rfl) rfl rfl ?_
  refine gi_aload_n (q := 16) (i := 0) C (dm_St_prepare 9 rfl) rfl rfl rfl ?_
  refine gi_iconst (q := 17) (v := 0) C (dm_St_prepare 10 rfl) rfl (by decide) ?_
  refine gi_put (q := 20) C (dm_St_prepare 11 rfl) rfl fl_St_77 fp_St_0 (by repeat (first | exact gi_up_self _ _ _ | assumption | rw [gi_up_ne (by omega)])) (Nat.le_of_ble_eq_true rfl) rfl rfl ?_
  refine gi_vret C hr (dm_St_prepare 12 rfl) ?_
  refine ⟨rfl, rfl, ?_⟩
  simp only [gi_up_up]
  exact P.pO f t (upS (upS S 6 m) 0 0)
set_option maxHeartbeats 4000000 in
set_option maxRecDepth 100000 in
theorem c_St_alone (q : Nat) (u : Av) (P : stO a pr bu fr to h0 S x y nx ny ar ou be ab Wk Wy En Lo h) (hq : q < a + 55 ∨ a + 59 ≤ q) (hu : h q = some (eV (eA u))) : gi_T l V y_St_alone b_St_alone 2 (some (.object "AnalysisHouse$Row")) 3 62 0 0 [.ref a, .ref q] n h (fun v n' h' => v = some (.ref (a + 55)) ∧ n' = n ∧ (∃ Lo', stO a pr bu fr to h0 S x y nx ny ar ou be ab Wk Wy En Lo' h' ∧ isG Lo' 1 (one u)) ∧ outR (a + 55) 1 h h') := by
  refine gi_enter (by decide) (Nat.le_of_ble_eq_true rfl) ?_
  intro _ _ _ _ _ _ _ _ C hr hnm
  have p0 := P.ob
  have L := P.lo
  have l0 := L.1
  refine gi_aload_n (q := 1) (i := 0) C (dm_St_alone 0 rfl) rfl rfl rfl ?_
  refine gi_get (q := 4) C (dm_St_alone 1 rfl) rfl fl_St_33 (by repeat (first | exact gi_up_self _ _ _ | assumption | rw [gi_up_ne (by omega)])) rfl ?_
  refine gi_iconst (q := 5) (v := 0) C (dm_St_alone 2 rfl) rfl (by decide) ?_
  refine gi_put (q := 8) C (dm_St_alone 3 rfl) rfl fl_St_92 fp_Ro_2 (by repeat (first | exact gi_up_self _ _ _ | assumption | rw [gi_up_ne (by omega)])) (Nat.le_of_ble_eq_true rfl) rfl rfl ?_
  have T := L.o 0 Lo.2.2.1 Lo.2.2.2.1
  refine gi_aload_n (q := 9) (i := 0) C (dm_St_alone 4 rfl) rfl rfl rfl ?_
  refine gi_get (q := 12) C (dm_St_alone 5 rfl) rfl fl_St_33 (by repeat (first | exact gi_up_self _ _ _ | assumption | rw [gi_up_ne (by omega)])) rfl ?_
  refine gi_callv 0 (q := 15) C (dm_St_alone 6 rfl) rfl my_Ro_push lk_St_95 im_Ro_push rfl (c_Ro_push (s := 0) (by omega) (by omega) T rfl) T.1 rfl rfl ⟨(Nat.le_of_ble_eq_true rfl), (Nat.le_of_ble_eq_true rfl)⟩ (Nat.le_of_ble_eq_true rfl) ⟨(Nat.le_of_ble_eq_true rfl), (Nat.le_of_ble_eq_true rfl)⟩ (fun r12 n12 h12 e12 => ?_)
  obtain ⟨rfl, rfl, S12, O12⟩ := e12
  have V0 := S12.2.2.2.1 0 (by omega)
  have hu2 : h12 q = some (eV (eA u)) := by rw [O12 _ (by omega), gi_up_ne (by omega)]; exact hu
  refine gi_aload_n (q := 16) (i := 1) C (dm_St_alone 7 rfl) rfl rfl rfl ?_
  refine gi_callv 1 (q := 19) C (dm_St_alone 8 rfl) rfl my_Va_copy lk_St_99 im_Va_copy rfl (c_Va_copy _ q _ (eA u) V0.2.2 hu2 (by have := V0.1; have := V0.2.1; omega) (wf_A u)) V0.2.2 rfl rfl ⟨(Nat.le_of_ble_eq_true rfl), (Nat.le_of_ble_eq_true rfl)⟩ (Nat.le_of_ble_eq_true rfl) ⟨(Nat.le_of_ble_eq_true rfl), (Nat.le_of_ble_eq_true rfl)⟩ (fun r16 n16 h16 e16 => ?_)
  obtain ⟨rfl, rfl, rfl⟩ := e16
  refine gi_aload_n (q := 20) (i := 0) C (dm_St_alone 9 rfl) rfl rfl rfl ?_
  refine gi_get (q := 23) C (dm_St_alone 10 rfl) rfl fl_St_33 (by rw [gi_up_ne (by have := V0.1; omega), O12 _ (by omega), gi_up_ne (by omega)]; exact p0) rfl ?_
  refine gi_aret C hr (Or.inl ⟨_, rfl⟩) (Or.inr ⟨_, rfl⟩) (dm_St_alone 11 rfl) ?_
  have G := S12.v (show 0 < 1 by omega) (eA u)
  have OO := ((outR.rf.up (Nat.le_refl _) (by omega)).tr O12).up (x := eV (eA u)) (by have := V0.1; omega) V0.2.1
  refine ⟨rfl, rfl, ⟨_, P.rLo G OO, rfl, fun i hi => ?_⟩, OO⟩
  have : i = 0 := by omega
  subst this
  constructor
  · show upV Lo.2.2.2.2.1 0 (eA u) 0 = _
    rw [upV_self]
    rfl
  · show upV Lo.2.2.2.2.2 0 (-1) 0 = _
    rw [upV_self]
    rfl
/-! pictures of rows -/
theorem isG.ext {R : mR} {n : Nat} {f g : Nat → Sl} (H : isG R n f) (e : ∀ i, i < n → f i = g i) : isG R n g := ⟨H.1, fun i hi => by rw [← e i hi]; exact H.2 i hi⟩
theorem isG.push {R : mR} {n : Nat} {f : Nat → Sl} (H : isG R n f) (v : Av) (m t c : Int32) : isG (rV (rM (rO R (nI (n + 1)) t c) n m) n (eA v)) (n + 1) (upF f n (v, m)) := ⟨rfl, fun i hi => by
  show upV R.2.2.2.2.1 n (eA v) i = _ ∧ upV R.2.2.2.2.2 n m i = _
  by_cases q : i = n
  · subst q
    rw [upV_self, upV_self, upF_self]
    exact ⟨rfl, rfl⟩
  · rw [upV_ne q, upV_ne q, upF_ne q]
    exact H.2 i (by omega)⟩
theorem isG.pop {R : mR} {n : Nat} {f : Nat → Sl} (H : isG R n f) (t c : Int32) {m : Nat} (hm : m ≤ n) : isG (rO R (nI m) t c) m f := ⟨rfl, fun i hi => H.2 i (by omega)⟩
theorem isG.tell {R : mR} {n k : Nat} {f : Nat → Sl} {j : Nat} (H : isG R n f) (hj : j < k) (hk : k < 2 ^ 31) (v : Av) : isG (rTl R j (nI j) (eA v) n) n (tellF n f (nI j) v) := ⟨H.1, fun i hi => by
  show (if i = j ∨ (i < n ∧ R.2.2.2.2.2 i = nI j) then eA v else R.2.2.2.2.1 i) = _ ∧ R.2.2.2.2.2 i = _
  rw [tell_mk]
  refine ⟨?_, (H.2 i hi).2⟩
  unfold tellF
  rw [if_neg (nI_ne_m1 (by omega)), nI_clamp (by omega), (H.2 i hi).2]
  split
  · rfl
  · exact (H.2 i hi).1⟩
theorem isG.drop {R : mR} {n : Nat} {f : Nat → Sl} (H : isG R n f) (m : Int32) : isG (rDk R m n) n (dropF n f m) := ⟨H.1, fun i hi => by
  show R.2.2.2.2.1 i = _ ∧ (if i < n ∧ R.2.2.2.2.2 i = m then -1 else R.2.2.2.2.2 i) = _
  unfold dropF
  rw [(H.2 i hi).2]
  split
  · exact ⟨(H.2 i hi).1, rfl⟩
  · exact ⟨(H.2 i hi).1, rfl⟩⟩
theorem isG.val {R : mR} {n j : Nat} {f : Nat → Sl} (H : isG R n f) (v : Av) : isG (rV R j (eA v)) n (upF f j (v, (f j).2)) := ⟨H.1, fun i hi => by
  show upV R.2.2.2.2.1 j (eA v) i = _ ∧ R.2.2.2.2.2 i = _
  by_cases q : i = j
  · subst q
    rw [upV_self, upF_self]
    exact ⟨rfl, (H.2 i hi).2⟩
  · rw [upV_ne q, upF_ne q]
    exact H.2 i hi⟩
theorem isG.mark {R : mR} {n j : Nat} {f : Nat → Sl} (H : isG R n f) (m : Int32) : isG (rM R j m) n (upF f j ((f j).1, m)) := ⟨H.1, fun i hi => by
  show R.2.2.2.2.1 i = _ ∧ upV R.2.2.2.2.2 j m i = _
  by_cases q : i = j
  · subst q
    rw [upV_self, upF_self]
    exact ⟨(H.2 i hi).1, rfl⟩
  · rw [upV_ne q, upF_ne q]
    exact H.2 i hi⟩
theorem isG.swap {R : mR} {n : Nat} {f : Nat → Sl} (H : isG R n f) (h2 : 2 ≤ n) : isG (rSw R n) n (upF (upF f (n - 1) (f (n - 2))) (n - 2) (f (n - 1))) := ⟨H.1, fun i hi => by
  show R.2.2.2.2.1 (swp n i) = _ ∧ R.2.2.2.2.2 (swp n i) = _
  have t := H.2 (swp n i) (swp_lt h2 (Nat.le_refl n) hi)
  have e : f (swp n i) = upF (upF f (n - 1) (f (n - 2))) (n - 2) (f (n - 1)) i := by
    unfold swp upF
    by_cases z1 : i = n - 1
    · rw [if_pos z1, if_neg (by omega), if_pos z1]
    · by_cases z2 : i = n - 2
      · rw [if_neg z1, if_pos z2, if_pos z2]
      · rw [if_neg z1, if_neg z2, if_neg z2, if_neg z1]
  rw [← e]
  exact t⟩
theorem isG.wf {R : mR} {n : Nat} {f : Nat → Sl} (H : isG R n f) : ∀ j, j < n → wfV (R.2.2.2.2.1 j) := fun j hj => by
  rw [(H.2 j hj).1]
  exact wf_A _
/-- what comes, in a mood: 0 grows and widens, 1 grows, 2 only looks -/
def comeM (md : Nat) (wd : Nat → Bool) (X : Fa × Bool) (c : Con) : Fa × Bool := if md = 2 then (X.1, X.2 || newR (X.1 c.1) c.2.1 c.2.2) else come (fun t => wd t && decide (md = 0)) X c
theorem bor_n (p q : Bool) : narrow .boolean (.int (bI p ||| bI q)) = .int (bI p ||| bI q) := by rw [bI_or]; exact nb_n (bI_01 _)
theorem bor_f (p q : Bool) : fits .boolean (.int (bI p ||| bI q)) = true := by rw [bI_or]; exact nb_f (bI_01 _)
variable {F : Fa} {Φ : Nat → mR} {T : Nat → Ty}
set_option maxHeartbeats 4000000 in
set_option maxRecDepth 100000 in
theorem c_St_come (md : Nat) (wd : Nat → Bool) (q kq s t : Nat) (Rq : mR) (g : Nat → Sl) (cb : Bool) (P : stO a pr bu fr to h0 S x y nx ny ar ou be ab Wk Wy En Lo h) (hmd : md ≤ 2) (hS6 : S 6 = nI md) (hS0 : S 0 = bI cb) (Hf : fa_at to Φ h) (HF : FaR F Φ) (hok : okF T F) (dto : to + 8414 ≤ a ∨ a + 65 ≤ to) (hq1 : a + 4 ≤ q) (hq2 : q + 3 + kq ≤ a + 65) (hk31 : kq < 2 ^ 31) (K : ro_at q kq Rq h) (hG : isG Rq s g) (hsk : s ≤ kq) (ht : t < 542) (hsc : s ≤ fa_cap t) (hgT : okG (T t) s g) (hch : md = 0 → wd t = true → (F t).told = true → (F t).ch < 2 ^ 30) : gi_T l V y_St_come b_St_come 4 none 3 79 0 0 [.ref a, .ref (fa_row to t), .ref q, .int (bI (wd t))] n h (fun v n' h' => v = none ∧ n' = n ∧ (∃ Φ', fa_at to Φ' h' ∧ FaR (comeM md wd (F, cb) (t, s, g)).1 Φ') ∧ stO a pr bu fr to h' (upS S 0 (bI (comeM md wd (F, cb) (t, s, g)).2)) x y nx ny ar ou be ab Wk Wy En Lo h' ∧ ∀ b, b ≠ a → (b < to ∨ to + 8414 ≤ b) → h' b = h b) := by
  refine gi_enter (by decide) (Nat.le_of_ble_eq_true rfl) ?_
  intro _ _ _ _ _ _ _ _ C hr hnm
  have p0 := P.ob
  have H := Hf.2.2.2.2.2.2 t ht
  have HT := HF t ht
  have fi := fa_in to t ht
  have kc : fa_cap t < 2 ^ 31 := by have := fa_cas to t ht; omega
  have H0 := H.1
  refine gi_aload_n (q := 1) (i := 0) C (dm_St_come 0 rfl) rfl rfl rfl ?_
  refine gi_get (q := 4) C (dm_St_come 1 rfl) rfl fl_St_73 (by repeat (first | exact gi_up_self _ _ _ | assumption | rw [gi_up_ne (by omega)])) rfl ?_
  refine gi_iconst (q := 5) (v := 2) C (dm_St_come 2 rfl) rfl (by decide) ?_
  refine gi_icmp_ne (q := 8) (tgt := 40) C (dm_St_come 3 rfl) rfl (by decide) (fun c5 => ?_) (fun c5 => ?_)
  · by_cases wt : wd t = true
    · by_cases m0 : md = 0
      · refine gi_aload_n (q := 41) (i := 0) C (dm_St_come 20 rfl) rfl rfl rfl ?_
        refine gi_dup (q := 42) C (dm_St_come 21 rfl) rfl rfl ?_
        refine gi_get (q := 45) C (dm_St_come 22 rfl) rfl fl_St_77 (by repeat (first | exact gi_up_self _ _ _ | assumption | rw [gi_up_ne (by omega)])) rfl ?_
        refine gi_aload_n (q := 46) (i := 1) C (dm_St_come 23 rfl) rfl rfl rfl ?_
        refine gi_aload_n (q := 47) (i := 2) C (dm_St_come 24 rfl) rfl rfl rfl ?_
        refine gi_iload_n (q := 48) (i := 3) C (dm_St_come 25 rfl) rfl rfl rfl ?_
        refine gi_if_eq (q := 51) (tgt := 62) C (dm_St_come 26 rfl) rfl (by decide) (fun c48 => ?_) (fun c48 => ?_)
        · rw [wt] at c48
          exact absurd c48 (by decide)
        · refine gi_aload_n (q := 52) (i := 0) C (dm_St_come 27 rfl) rfl rfl rfl ?_
          refine gi_get (q := 55) C (dm_St_come 28 rfl) rfl fl_St_73 (by repeat (first | exact gi_up_self _ _ _ | assumption | rw [gi_up_ne (by omega)])) rfl ?_
          refine gi_if_ne (q := 58) (tgt := 62) C (dm_St_come 29 rfl) rfl (by decide) (fun c55 => ?_) (fun c55 => ?_)
          · exact absurd (by rw [hS6, m0]; rfl) c55
          · refine gi_iconst (q := 59) (v := 1) C (dm_St_come 30 rfl) rfl (by decide) ?_
            refine gi_goto (tgt := 63) C (dm_St_come 31 rfl) (by decide) ?_
            refine gi_callv 2 (q := 66) C (dm_St_come 33 rfl) rfl my_Ro_join lk_St_88 im_Ro_join rfl (c_Ro_join (F t) (T t) true kc hk31 (by omega) H K HT (hok t ht).1 hgT hG hsc hsk (fun _ z2 => hch m0 wt z2)) H0 rfl rfl ⟨(Nat.le_of_ble_eq_true rfl), (Nat.le_of_ble_eq_true rfl)⟩ (Nat.le_of_ble_eq_true rfl) ⟨(Nat.le_of_ble_eq_true rfl), (Nat.le_of_ble_eq_true rfl)⟩ (fun r63 n63 h63 e63 => ?_)
            obtain ⟨rfl, rfl, ⟨R', S63, HR'⟩, O63⟩ := e63
            have p9 : h63 a = _ := (O63 a (by omega)).trans p0
            refine gi_ior (q := 67) C (dm_St_come 34 rfl) rfl ?_
            refine gi_put (q := 70) C (dm_St_come 35 rfl) rfl fl_St_77 fp_St_0 p9 (Nat.le_of_ble_eq_true rfl) (by rw [hS0]; exact bor_n _ _) (by rw [hS0]; exact bor_f _ _) ?_
            refine gi_vret C hr (dm_St_come 36 rfl) ?_
            have wb : (wd t && decide (md = 0)) = true := by simp [wt, m0]
            have md2 : ¬ md = 2 := fun z => c5 (by rw [hS6, z]; rfl)
            have e0 : comeM md wd (F, cb) (t, s, g) = come (fun t => wd t && decide (md = 0)) (F, cb) (t, s, g) := by unfold comeM; rw [if_neg md2]
            have Q := (P.ext (h' := h63) (fun b b1 b2 => O63 b (by omega))).pO fr to (upS S 0 (bI (comeM md wd (F, cb) (t, s, g)).2))
            have ev : S 0 ||| bI (newR (F t) s g) = bI (comeM md wd (F, cb) (t, s, g)).2 := by
              rw [hS0, bI_or, e0]
              rfl
            rw [ev]
            have R0 := Hf.row ht S63 O63
            refine ⟨rfl, rfl, ⟨upV Φ t R', R0.keep (fun b b1 b2 => gi_up_ne (by omega)), fun u hu => ?_⟩, ⟨Q.1, fun _ _ => rfl⟩, fun b b1 b2 => by rw [gi_up_ne b1, O63 b (by omega)]⟩
            rw [e0]
            by_cases z : u = t
            · subst z
              rw [upV_self, come_at, wb]
              exact HR'
            · rw [upV_ne z, come_ne z]
              exact HF u hu
      · refine gi_aload_n (q := 41) (i := 0) C (dm_St_come 20 rfl) rfl rfl rfl ?_
        refine gi_dup (q := 42) C (dm_St_come 21 rfl) rfl rfl ?_
        refine gi_get (q := 45) C (dm_St_come 22 rfl) rfl fl_St_77 (by repeat (first | exact gi_up_self _ _ _ | assumption | rw [gi_up_ne (by omega)])) rfl ?_
        refine gi_aload_n (q := 46) (i := 1) C (dm_St_come 23 rfl) rfl rfl rfl ?_
        refine gi_aload_n (q := 47) (i := 2) C (dm_St_come 24 rfl) rfl rfl rfl ?_
        refine gi_iload_n (q := 48) (i := 3) C (dm_St_come 25 rfl) rfl rfl rfl ?_
        refine gi_if_eq (q := 51) (tgt := 62) C (dm_St_come 26 rfl) rfl (by decide) (fun c48 => ?_) (fun c48 => ?_)
        · rw [wt] at c48
          exact absurd c48 (by decide)
        · refine gi_aload_n (q := 52) (i := 0) C (dm_St_come 27 rfl) rfl rfl rfl ?_
          refine gi_get (q := 55) C (dm_St_come 28 rfl) rfl fl_St_73 (by repeat (first | exact gi_up_self _ _ _ | assumption | rw [gi_up_ne (by omega)])) rfl ?_
          refine gi_if_ne (q := 58) (tgt := 62) C (dm_St_come 29 rfl) rfl (by decide) (fun c55 => ?_) (fun c55 => ?_)
          · refine gi_iconst (q := 63) (v := 0) C (dm_St_come 32 rfl) rfl (by decide) ?_
            refine gi_callv 2 (q := 66) C (dm_St_come 33 rfl) rfl my_Ro_join lk_St_88 im_Ro_join rfl (c_Ro_join (F t) (T t) false kc hk31 (by omega) H K HT (hok t ht).1 hgT hG hsc hsk (fun z => absurd z (by decide))) H0 rfl rfl ⟨(Nat.le_of_ble_eq_true rfl), (Nat.le_of_ble_eq_true rfl)⟩ (Nat.le_of_ble_eq_true rfl) ⟨(Nat.le_of_ble_eq_true rfl), (Nat.le_of_ble_eq_true rfl)⟩ (fun r63 n63 h63 e63 => ?_)
            obtain ⟨rfl, rfl, ⟨R', S63, HR'⟩, O63⟩ := e63
            have p9 : h63 a = _ := (O63 a (by omega)).trans p0
            refine gi_ior (q := 67) C (dm_St_come 34 rfl) rfl ?_
            refine gi_put (q := 70) C (dm_St_come 35 rfl) rfl fl_St_77 fp_St_0 p9 (Nat.le_of_ble_eq_true rfl) (by rw [hS0]; exact bor_n _ _) (by rw [hS0]; exact bor_f _ _) ?_
            refine gi_vret C hr (dm_St_come 36 rfl) ?_
            have wb : (wd t && decide (md = 0)) = false := by simp [m0]
            have md2 : ¬ md = 2 := fun z => c5 (by rw [hS6, z]; rfl)
            have e0 : comeM md wd (F, cb) (t, s, g) = come (fun t => wd t && decide (md = 0)) (F, cb) (t, s, g) := by unfold comeM; rw [if_neg md2]
            have Q := (P.ext (h' := h63) (fun b b1 b2 => O63 b (by omega))).pO fr to (upS S 0 (bI (comeM md wd (F, cb) (t, s, g)).2))
            have ev : S 0 ||| bI (newR (F t) s g) = bI (comeM md wd (F, cb) (t, s, g)).2 := by
              rw [hS0, bI_or, e0]
              rfl
            rw [ev]
            have R0 := Hf.row ht S63 O63
            refine ⟨rfl, rfl, ⟨upV Φ t R', R0.keep (fun b b1 b2 => gi_up_ne (by omega)), fun u hu => ?_⟩, ⟨Q.1, fun _ _ => rfl⟩, fun b b1 b2 => by rw [gi_up_ne b1, O63 b (by omega)]⟩
            rw [e0]
            by_cases z : u = t
            · subst z
              rw [upV_self, come_at, wb]
              exact HR'
            · rw [upV_ne z, come_ne z]
              exact HF u hu
          · exfalso
            rw [hS6] at c55
            exact m0 ((nI_eq (b := 0) (by omega) (by omega)).mp c55)
    · refine gi_aload_n (q := 41) (i := 0) C (dm_St_come 20 rfl) rfl rfl rfl ?_
      refine gi_dup (q := 42) C (dm_St_come 21 rfl) rfl rfl ?_
      refine gi_get (q := 45) C (dm_St_come 22 rfl) rfl fl_St_77 (by repeat (first | exact gi_up_self _ _ _ | assumption | rw [gi_up_ne (by omega)])) rfl ?_
      refine gi_aload_n (q := 46) (i := 1) C (dm_St_come 23 rfl) rfl rfl rfl ?_
      refine gi_aload_n (q := 47) (i := 2) C (dm_St_come 24 rfl) rfl rfl rfl ?_
      refine gi_iload_n (q := 48) (i := 3) C (dm_St_come 25 rfl) rfl rfl rfl ?_
      refine gi_if_eq (q := 51) (tgt := 62) C (dm_St_come 26 rfl) rfl (by decide) (fun c48 => ?_) (fun c48 => ?_)
      · refine gi_iconst (q := 63) (v := 0) C (dm_St_come 32 rfl) rfl (by decide) ?_
        refine gi_callv 2 (q := 66) C (dm_St_come 33 rfl) rfl my_Ro_join lk_St_88 im_Ro_join rfl (c_Ro_join (F t) (T t) false kc hk31 (by omega) H K HT (hok t ht).1 hgT hG hsc hsk (fun z => absurd z (by decide))) H0 rfl rfl ⟨(Nat.le_of_ble_eq_true rfl), (Nat.le_of_ble_eq_true rfl)⟩ (Nat.le_of_ble_eq_true rfl) ⟨(Nat.le_of_ble_eq_true rfl), (Nat.le_of_ble_eq_true rfl)⟩ (fun r63 n63 h63 e63 => ?_)
        obtain ⟨rfl, rfl, ⟨R', S63, HR'⟩, O63⟩ := e63
        have p9 : h63 a = _ := (O63 a (by omega)).trans p0
        refine gi_ior (q := 67) C (dm_St_come 34 rfl) rfl ?_
        refine gi_put (q := 70) C (dm_St_come 35 rfl) rfl fl_St_77 fp_St_0 p9 (Nat.le_of_ble_eq_true rfl) (by rw [hS0]; exact bor_n _ _) (by rw [hS0]; exact bor_f _ _) ?_
        refine gi_vret C hr (dm_St_come 36 rfl) ?_
        have wb : (wd t && decide (md = 0)) = false := by simp [wt]
        have md2 : ¬ md = 2 := fun z => c5 (by rw [hS6, z]; rfl)
        have e0 : comeM md wd (F, cb) (t, s, g) = come (fun t => wd t && decide (md = 0)) (F, cb) (t, s, g) := by unfold comeM; rw [if_neg md2]
        have Q := (P.ext (h' := h63) (fun b b1 b2 => O63 b (by omega))).pO fr to (upS S 0 (bI (comeM md wd (F, cb) (t, s, g)).2))
        have ev : S 0 ||| bI (newR (F t) s g) = bI (comeM md wd (F, cb) (t, s, g)).2 := by
          rw [hS0, bI_or, e0]
          rfl
        rw [ev]
        have R0 := Hf.row ht S63 O63
        refine ⟨rfl, rfl, ⟨upV Φ t R', R0.keep (fun b b1 b2 => gi_up_ne (by omega)), fun u hu => ?_⟩, ⟨Q.1, fun _ _ => rfl⟩, fun b b1 b2 => by rw [gi_up_ne b1, O63 b (by omega)]⟩
        rw [e0]
        by_cases z : u = t
        · subst z
          rw [upV_self, come_at, wb]
          exact HR'
        · rw [upV_ne z, come_ne z]
          exact HF u hu
      · exfalso
        exact wt (bI_t c48)
  · have md2 : md = 2 := (nI_eq (b := 2) (by omega) (by omega)).mp (by rw [← hS6]; exact c5)
    have e0 : comeM md wd (F, cb) (t, s, g) = (F, cb || newR (F t) s g) := by unfold comeM; rw [if_pos md2]
    refine gi_aload_n (q := 9) (i := 0) C (dm_St_come 4 rfl) rfl rfl rfl ?_
    refine gi_dup (q := 10) C (dm_St_come 5 rfl) rfl rfl ?_
    refine gi_get (q := 13) C (dm_St_come 6 rfl) rfl fl_St_77 (by repeat (first | exact gi_up_self _ _ _ | assumption | rw [gi_up_ne (by omega)])) rfl ?_
    refine gi_aload_n (q := 14) (i := 1) C (dm_St_come 7 rfl) rfl rfl rfl ?_
    refine gi_get (q := 17) C (dm_St_come 8 rfl) rfl fl_St_81 (by repeat (first | exact gi_up_self _ _ _ | assumption | rw [gi_up_ne (by omega)])) rfl ?_
    refine gi_if_eq (q := 20) (tgt := 28) C (dm_St_come 9 rfl) rfl (by decide) (fun c17 => ?_) (fun c17 => ?_)
    · have nw : newR (F t) s g = true := by
        unfold newR
        first
          | (rw [show (F t).told = false from bI_fa (by rw [← HT.1]; exact c17)]; rfl)
          | (have ec : covR (F t) s g = false := by
               have := bI_fa c25
               unfold covR at this ⊢
               rw [en]
               exact this
             rw [ec]
             simp)
      refine gi_iconst (q := 29) (v := 1) C (dm_St_come 14 rfl) rfl (by decide) ?_
      refine gi_goto (tgt := 33) C (dm_St_come 15 rfl) (by decide) ?_
      refine gi_ior (q := 34) C (dm_St_come 17 rfl) rfl ?_
      refine gi_put (q := 37) C (dm_St_come 18 rfl) rfl fl_St_77 fp_St_0 (by repeat (first | exact gi_up_self _ _ _ | assumption | rw [gi_up_ne (by omega)])) (Nat.le_of_ble_eq_true rfl) (by rw [hS0]; cases cb <;> rfl) (by rw [hS0]; cases cb <;> rfl) ?_
      refine gi_goto (tgt := 70) C (dm_St_come 19 rfl) (by decide) ?_
      refine gi_vret C hr (dm_St_come 36 rfl) ?_
      first
        | (
           rw [e0]
           have Q := P.pO fr to (upS S 0 (bI (cb || newR (F t) s g)))
           have ev : S 0 ||| (1 : Int32) = bI (cb || newR (F t) s g) := by
             rw [hS0, nw]
             cases cb <;> rfl
           rw [ev]
           exact ⟨rfl, rfl, ⟨Φ, Hf.keep (fun b b1 b2 => gi_up_ne (by omega)), HF⟩, ⟨Q.1, fun _ _ => rfl⟩, fun b b1 b2 => gi_up_ne b1⟩)
        | (
           rw [e0]
           have Q := P.pO fr to (upS S 0 (bI (cb || newR (F t) s g)))
           have ev : S 0 ||| (0 : Int32) = bI (cb || newR (F t) s g) := by
             rw [hS0, nw]
             cases cb <;> rfl
           rw [ev]
           exact ⟨rfl, rfl, ⟨Φ, Hf.keep (fun b b1 b2 => gi_up_ne (by omega)), HF⟩, ⟨Q.1, fun _ _ => rfl⟩, fun b b1 b2 => gi_up_ne b1⟩)
    · have htl : (F t).told = true := bI_t (b := (F t).told) (by rw [← HT.1]; exact c17)
      have en : (F t).n = s := by rw [((hok t ht).1 htl).1, hgT.1]
      have ho : ∀ j, j < s → okAv ((F t).f j).1 ∧ okAv (g j).1 ∧ arA ((F t).f j).1 = arA (g j).1 := fun j hj => by
        have p1 := ((hok t ht).1 htl).2 j (by have := hgT.1; omega)
        have p2 := hgT.2 j (by have := hgT.1; omega)
        exact ⟨p1.1, p2.1, by rw [p1.2.1, p2.2.1]⟩
      refine gi_aload_n (q := 21) (i := 1) C (dm_St_come 10 rfl) rfl rfl rfl ?_
      refine gi_aload_n (q := 22) (i := 2) C (dm_St_come 11 rfl) rfl rfl rfl ?_
      refine gi_callv 1 (q := 25) C (dm_St_come 12 rfl) rfl my_Ro_covers lk_St_84 im_Ro_covers rfl (c_Ro_covers kc hk31 H K (by rw [← en]; exact (HT.2.2 htl).1) hG hsc hsk ho) H0 rfl rfl ⟨(Nat.le_of_ble_eq_true rfl), (Nat.le_of_ble_eq_true rfl)⟩ (Nat.le_of_ble_eq_true rfl) ⟨(Nat.le_of_ble_eq_true rfl), (Nat.le_of_ble_eq_true rfl)⟩ (fun r22 n22 h22 e22 => ?_)
      obtain ⟨rfl, rfl, rfl⟩ := e22
      refine gi_if_ne (q := 28) (tgt := 32) C (dm_St_come 13 rfl) rfl (by decide) (fun c25 => ?_) (fun c25 => ?_)
      · have nw : newR (F t) s g = false := by
          unfold newR
          have ec : covR (F t) s g = true := by
            have := bI_t c25
            unfold covR at this ⊢
            rw [en]
            exact this
          rw [ec, htl]
          rfl
        refine gi_iconst (q := 33) (v := 0) C (dm_St_come 16 rfl) rfl (by decide) ?_
        refine gi_ior (q := 34) C (dm_St_come 17 rfl) rfl ?_
        refine gi_put (q := 37) C (dm_St_come 18 rfl) rfl fl_St_77 fp_St_0 (by repeat (first | exact gi_up_self _ _ _ | assumption | rw [gi_up_ne (by omega)])) (Nat.le_of_ble_eq_true rfl) (by rw [hS0]; cases cb <;> rfl) (by rw [hS0]; cases cb <;> rfl) ?_
        refine gi_goto (tgt := 70) C (dm_St_come 19 rfl) (by decide) ?_
        refine gi_vret C hr (dm_St_come 36 rfl) ?_
        first
          | (
             rw [e0]
             have Q := P.pO fr to (upS S 0 (bI (cb || newR (F t) s g)))
             have ev : S 0 ||| (1 : Int32) = bI (cb || newR (F t) s g) := by
               rw [hS0, nw]
               cases cb <;> rfl
             rw [ev]
             exact ⟨rfl, rfl, ⟨Φ, Hf.keep (fun b b1 b2 => gi_up_ne (by omega)), HF⟩, ⟨Q.1, fun _ _ => rfl⟩, fun b b1 b2 => gi_up_ne b1⟩)
          | (
             rw [e0]
             have Q := P.pO fr to (upS S 0 (bI (cb || newR (F t) s g)))
             have ev : S 0 ||| (0 : Int32) = bI (cb || newR (F t) s g) := by
               rw [hS0, nw]
               cases cb <;> rfl
             rw [ev]
             exact ⟨rfl, rfl, ⟨Φ, Hf.keep (fun b b1 b2 => gi_up_ne (by omega)), HF⟩, ⟨Q.1, fun _ _ => rfl⟩, fun b b1 b2 => gi_up_ne b1⟩)
      · have nw : newR (F t) s g = true := by
          unfold newR
          first
            | (rw [show (F t).told = false from bI_fa (by rw [← HT.1]; exact c17)]; rfl)
            | (have ec : covR (F t) s g = false := by
                 have := bI_fa c25
                 unfold covR at this ⊢
                 rw [en]
                 exact this
               rw [ec]
               simp)
        refine gi_iconst (q := 29) (v := 1) C (dm_St_come 14 rfl) rfl (by decide) ?_
        refine gi_goto (tgt := 33) C (dm_St_come 15 rfl) (by decide) ?_
        refine gi_ior (q := 34) C (dm_St_come 17 rfl) rfl ?_
        refine gi_put (q := 37) C (dm_St_come 18 rfl) rfl fl_St_77 fp_St_0 (by repeat (first | exact gi_up_self _ _ _ | assumption | rw [gi_up_ne (by omega)])) (Nat.le_of_ble_eq_true rfl) (by rw [hS0]; cases cb <;> rfl) (by rw [hS0]; cases cb <;> rfl) ?_
        refine gi_goto (tgt := 70) C (dm_St_come 19 rfl) (by decide) ?_
        refine gi_vret C hr (dm_St_come 36 rfl) ?_
        first
          | (
             rw [e0]
             have Q := P.pO fr to (upS S 0 (bI (cb || newR (F t) s g)))
             have ev : S 0 ||| (1 : Int32) = bI (cb || newR (F t) s g) := by
               rw [hS0, nw]
               cases cb <;> rfl
             rw [ev]
             exact ⟨rfl, rfl, ⟨Φ, Hf.keep (fun b b1 b2 => gi_up_ne (by omega)), HF⟩, ⟨Q.1, fun _ _ => rfl⟩, fun b b1 b2 => gi_up_ne b1⟩)
          | (
             rw [e0]
             have Q := P.pO fr to (upS S 0 (bI (cb || newR (F t) s g)))
             have ev : S 0 ||| (0 : Int32) = bI (cb || newR (F t) s g) := by
               rw [hS0, nw]
               cases cb <;> rfl
             rw [ev]
             exact ⟨rfl, rfl, ⟨Φ, Hf.keep (fun b b1 b2 => gi_up_ne (by omega)), HF⟩, ⟨Q.1, fun _ _ => rfl⟩, fun b b1 b2 => gi_up_ne b1⟩)
end ST1
