-- needs: 89.76
section RC8
variable {l : Launch} {V : gi_V} {n : Nat} {h h' : gi_H} {M k m i : Nat} {P : Pm} {x : Sh} {sh : Nat → Option Sh} {S S' : Nat → Int32} {J J' : Nat → Int64} {F F' : Nat → Nat → Int32} {G G' : Nat → Nat → Int64} {f g : Nat → Sl} {n0 : Nat} {r : Rw} {Ff : Fa} {Z : Fa × Bool} {md p t : Nat} {S0 S1 S2 : Nat → Int32} {J0 J1 J2 : Nat → Int64} {F0 F1 F2 : Nat → Nat → Int32} {G0 G1 G2 : Nat → Nat → Int64} {y y' : gi_H} {L : Nat} {κ : (Nat → Ce) × Int32}
/-- what a step may change -/
def frY (S S' : Nat → Int32) (J J' : Nat → Int64) (F F' : Nat → Nat → Int32) (G G' : Nat → Nat → Int64) : Prop := (∀ j, j ≠ 29 → j ≠ 30 → j ≠ 50 → j ≠ 51 → j ≠ 58 → j ≠ 59 → j ≠ 66 → S' j = S j) ∧ (∀ j, j < 22 ∨ 28 < j → J' j = J j) ∧ (∀ j, j < 31 ∨ 66 < j → F' j = F j) ∧ ∀ j, j < 31 ∨ 66 < j → G' j = G j
theorem frY.rf : frY S S J J F F G G := ⟨fun _ _ _ _ _ _ _ _ => rfl, fun _ _ => rfl, fun _ _ => rfl, fun _ _ => rfl⟩
theorem frY.tr (a : frY S S1 J J1 F F1 G G1) (b : frY S1 S2 J1 J2 F1 F2 G1 G2) : frY S S2 J J2 F F2 G G2 := ⟨fun j h1 h2 h3 h4 h5 h6 h7 => (b.1 j h1 h2 h3 h4 h5 h6 h7).trans (a.1 j h1 h2 h3 h4 h5 h6 h7), fun j h => (b.2.1 j h).trans (a.2.1 j h), fun j h => (b.2.2.1 j h).trans (a.2.2.1 j h), fun j h => (b.2.2.2 j h).trans (a.2.2.2 j h)⟩
theorem frZ.yy (a : frZ S S' J J' F F' G G') : frY S S' J J' F F' G G' := ⟨fun j _ _ h3 h4 _ _ _ => a.1 j h3 h4, fun j h => a.2.1 j (by omega), fun j h => a.2.2.1 j (by omega), fun j h => a.2.2.2 j (by omega)⟩
theorem frW.yy (a : frW S S' F F' G G') : frY S S' J J F F' G G' := ⟨fun j _ _ _ _ h5 _ _ => a.1 j h5, fun _ _ => rfl, fun j h => a.2.1 j (by omega) (by omega) (by omega), fun j h => a.2.2 j (by omega) (by omega) (by omega)⟩
theorem frK.yy (a : frK S S' F F' G G') : frY S S' J J F F' G G' := ⟨fun j _ _ _ _ _ _ h7 => a.1 j h7, fun _ _ => rfl, fun j h => a.2.1 j (by omega) (by omega) (by omega), fun j h => a.2.2 j (by omega) (by omega) (by omega)⟩
theorem nuP.yy (a : nuP S J S' J') : frY S S' J J' F F G G := ⟨fun j h1 h2 _ _ _ _ _ => a.2 j h1 h2, a.1, fun _ _ => rfl, fun _ _ => rfl⟩
theorem pgR.yy (h : pgR k P sh S F) (a : frY S S' J J' F F' G G') : pgR k P sh S' F' := by
  obtain ⟨h1, h2, h3, h4, h5⟩ := h
  refine ⟨fun j q1 q2 => by rw [a.2.2.1 j (by omega)]; exact h1 j q1 q2, (a.1 0 (by decide) (by decide) (by decide) (by decide) (by decide) (by decide) (by decide)).trans h2, fun m hm => ?_, fun q hq hs => by rw [a.2.2.1 15 (by decide)]; exact h4 q hq hs, fun m i hm hi => by rw [a.2.2.1 16 (by decide)]; exact h5 m i hm hi⟩
  intro i hi
  show (_ → F' 12 _ = _) ∧ ∀ x, _ → F' 12 _ = _ ∧ F' 13 _ = _
  rw [a.2.2.1 12 (by decide), a.2.2.1 13 (by decide)]
  exact h3 m hm i hi
/-- nothing of the facts is touched -/
def frN (S S' : Nat → Int32) (F F' : Nat → Nat → Int32) (G G' : Nat → Nat → Int64) : Prop := (∀ j, 46 ≤ j → j ≤ 51 → S' j = S j) ∧ (∀ j, 31 ≤ j → j ≤ 45 → F' j = F j) ∧ ∀ j, 31 ≤ j → j ≤ 45 → G' j = G j
theorem mdR.nn (h : mdR k P sh md Ff Z S F G) (a : frN S S' F F' G G') : mdR k P sh md Ff Z S' F' G' := by
  obtain ⟨a1, a2, a3, a4, a5, a6, a7, a8, a9⟩ := h
  have es : ∀ q, cS F' G' q = cS F G q := fun q => by
    unfold cS
    rw [a.2.1 35 (by decide) (by decide), a.2.1 36 (by decide) (by decide), a.2.1 37 (by decide) (by decide), a.2.2 32 (by decide) (by decide), a.2.2 33 (by decide) (by decide), a.2.2 34 (by decide) (by decide)]
  have et : ∀ q, cT F' G' q = cT F G q := fun q => by
    unfold cT
    rw [a.2.1 43 (by decide) (by decide), a.2.1 44 (by decide) (by decide), a.2.2 40 (by decide) (by decide), a.2.2 41 (by decide) (by decide), a.2.2 42 (by decide) (by decide)]
  have fS : ∀ r p q, rfS P r p q F G → rfS P r p q F' G' := fun r p q u => ⟨by rw [a.2.1 31 (by decide) (by decide)]; exact u.1, fun z => by
    obtain ⟨u1, u2, u3⟩ := u.2 z
    refine ⟨u1, u2, fun i hi => ?_⟩
    dsimp only
    rw [es]
    exact u3 i hi⟩
  have fT : ∀ r q, rfT r q F G → rfT r q F' G' := fun r q u => ⟨by rw [a.2.1 39 (by decide) (by decide)]; exact u.1, fun z => by rw [et]; exact u.2 z⟩
  exact ⟨(a.1 47 (by decide) (by decide)).trans a1, (a.1 48 (by decide) (by decide)).trans a2, (a.1 49 (by decide) (by decide)).trans a3, ⟨fun p hp => fS _ _ _ (a4.1 p hp), fun t h1 h2 => fT _ _ (a4.2 t h1 h2)⟩, fun z => ⟨fun p hp => fS _ _ _ ((a5 z).1 p hp), fun t h1 h2 => fT _ _ ((a5 z).2 t h1 h2)⟩, fun z => (a.1 50 (by decide) (by decide)).trans (a6 z), fun z => (a.1 51 (by decide) (by decide)).trans (a7 z), a8, fun z => ⟨⟨fun p hp wq => by rw [a.2.1 38 (by decide) (by decide)]; exact (a9 z).1.1 p hp wq, fun t h1 h2 => by rw [a.2.1 45 (by decide) (by decide)]; exact (a9 z).1.2 t h1 h2⟩, (a9 z).2⟩⟩
theorem frW.nn (a : frW S S' F F' G G') : frN S S' F F' G G' := ⟨fun j _ _ => a.1 j (by omega), fun j _ _ => a.2.1 j (by omega) (by omega) (by omega), fun j _ _ => a.2.2 j (by omega) (by omega) (by omega)⟩
theorem frK.nn (a : frK S S' F F' G G') : frN S S' F F' G G' := ⟨fun j _ _ => a.1 j (by omega), fun j _ _ => a.2.1 j (by omega) (by omega) (by omega), fun j _ _ => a.2.2 j (by omega) (by omega) (by omega)⟩
theorem nuP.nn (a : nuP S J S' J') : frN S S' F F G G := ⟨fun j _ _ => a.2 j (by omega) (by omega), fun _ _ _ => rfl, fun _ _ _ => rfl⟩
/-- the working registers are untouched -/
def frG (S S' : Nat → Int32) (F F' : Nat → Nat → Int32) (G G' : Nat → Nat → Int64) : Prop := S' 58 = S 58 ∧ (∀ j, 52 ≤ j → j ≤ 57 → F' j = F j) ∧ ∀ j, 52 ≤ j → j ≤ 57 → G' j = G j
theorem cW_r (a : frG S S' F F' G G') : cW F' G' = cW F G := by
  funext i
  unfold cW
  rw [a.2.1 55 (by decide) (by decide), a.2.1 56 (by decide) (by decide), a.2.1 57 (by decide) (by decide), a.2.2 52 (by decide) (by decide), a.2.2 53 (by decide) (by decide), a.2.2 54 (by decide) (by decide)]
theorem wkR.rg (h : wkR L n0 f S F G) (a : frG S S' F F' G G') : wkR L n0 f S' F' G' := ⟨a.1.trans h.1, by rw [cW_r a]; exact h.2.1, h.2.2⟩
theorem frZ.rg (a : frZ S S' J J' F F' G G') : frG S S' F F' G G' := ⟨a.1 58 (by decide) (by decide), fun j _ _ => a.2.2.1 j (by omega), fun j _ _ => a.2.2.2 j (by omega)⟩
theorem frK.rg (a : frK S S' F F' G G') : frG S S' F F' G G' := ⟨a.1 58 (by decide), fun j _ _ => a.2.1 j (by omega) (by omega) (by omega), fun j _ _ => a.2.2 j (by omega) (by omega) (by omega)⟩
theorem nuP.rg (a : nuP S J S' J') : frG S S' F F G G := ⟨a.2 58 (by decide) (by decide), fun _ _ _ => rfl, fun _ _ _ => rfl⟩
/-- what was kept -/
def kpC (κ : (Nat → Ce) × Int32) (S : Nat → Int32) (F : Nat → Nat → Int32) (G : Nat → Nat → Int64) : Prop := cK F G = κ.1 ∧ S 66 = κ.2
theorem cK_w (a : frW S S' F F' G G') : cK F' G' = cK F G := by
  funext i
  unfold cK
  rw [a.2.1 63 (by decide) (by decide) (by decide), a.2.1 64 (by decide) (by decide) (by decide), a.2.1 65 (by decide) (by decide) (by decide), a.2.2 60 (by decide) (by decide) (by decide), a.2.2 61 (by decide) (by decide) (by decide), a.2.2 62 (by decide) (by decide) (by decide)]
theorem cK_z (a : frZ S S' J J' F F' G G') : cK F' G' = cK F G := by
  funext i
  unfold cK
  rw [a.2.2.1 63 (by decide), a.2.2.1 64 (by decide), a.2.2.1 65 (by decide), a.2.2.2 60 (by decide), a.2.2.2 61 (by decide), a.2.2.2 62 (by decide)]
theorem kpC.cw (h : kpC κ S F G) (a : frW S S' F F' G G') : kpC κ S' F' G' := ⟨(cK_w a).trans h.1, (a.1 66 (by decide)).trans h.2⟩
theorem kpC.cz (h : kpC κ S F G) (a : frZ S S' J J' F F' G G') : kpC κ S' F' G' := ⟨(cK_z a).trans h.1, (a.1 66 (by decide) (by decide)).trans h.2⟩
theorem kpC.cn (h : kpC κ S F G) (a : nuP S J S' J') : kpC κ S' F G := ⟨h.1, (a.2 66 (by decide) (by decide)).trans h.2⟩
/-- a step's world -/
def WW (M k : Nat) (P : Pm) (sh : Nat → Option Sh) (md : Nat) (Ff : Fa) (κ : (Nat → Ce) × Int32) (h : gi_H) (S0 : Nat → Int32) (J0 : Nat → Int64) (F0 : Nat → Nat → Int32) (G0 : Nat → Nat → Int64) (Z : Fa × Bool) (L n0 : Nat) (f : Nat → Sl) (S : Nat → Int32) (J : Nat → Int64) (F : Nat → Nat → Int32) (G : Nat → Nat → Int64) (y : gi_H) : Prop := mo_at M S J F G y ∧ outM M h y ∧ (frY S0 S J0 J F0 F G0 G ∧ kpC κ S F G) ∧ pgR k P sh S F ∧ mdR k P sh md Ff Z S F G ∧ wkR L n0 f S F G
theorem WW.ob (H : WW M k P sh md Ff κ h S0 J0 F0 G0 Z L n0 f S J F G y) : ∃ fs, y M = some (gi_O 12 fs) ∧ mo_is fs (mo_fv M S J) := H.1.1
/-- the end of a step -/
def spP (M k : Nat) (P : Pm) (sh : Nat → Option Sh) (md : Nat) (Ff : Fa) (κ : (Nat → Ce) × Int32) (h : gi_H) (S0 : Nat → Int32) (J0 : Nat → Int64) (F0 : Nat → Nat → Int32) (G0 : Nat → Nat → Int64) (Z : Fa × Bool) (y : gi_H) : Prop := ∃ S' J' F' G', mo_at M S' J' F' G' y ∧ outM M h y ∧ (frY S0 S' J0 J' F0 F' G0 G' ∧ kpC κ S' F' G') ∧ mdR k P sh md Ff Z S' F' G'
theorem WW.end (H : WW M k P sh md Ff κ h S0 J0 F0 G0 Z L n0 f S J F G y) : spP M k P sh md Ff κ h S0 J0 F0 G0 Z y := ⟨S, J, F, G, H.1, H.2.1, H.2.2.1, H.2.2.2.2.1⟩
theorem WW.top (H : WW M k P sh md Ff κ h S0 J0 F0 G0 Z L n0 f S J F G y) {n1 : Nat} (hn : n1 ≤ n0) (hL : L ≤ n1) (H' : mo_at M (upS S 58 (nI (n1 - L + 6))) J F G y') (ho : outM M h y') : WW M k P sh md Ff κ h S0 J0 F0 G0 Z L n1 f (upS S 58 (nI (n1 - L + 6))) J F G y' := by
  obtain ⟨-, -, h3, h4, h5, h6⟩ := H
  have a : frW S (upS S 58 (nI (n1 - L + 6))) F F G G := ⟨fun j q => by unfold upS; rw [if_neg q], fun _ _ _ _ => rfl, fun _ _ _ _ => rfl⟩
  exact ⟨H', ho, ⟨h3.1.tr a.yy, h3.2.cw a⟩, h4.yy (J := J) (J' := J) a.yy, h5.nn a.nn, rfl, rw_less h6.2.1 hn, h6.2.2.1, hL, by have := h6.2.2.2.2; omega⟩
theorem WW.wk {f' : Nat → Sl} {n1 : Nat} (H : WW M k P sh md Ff κ h S0 J0 F0 G0 Z L n0 f S J F G y) (H' : mo_at M S' J F' G' y') (ho : outM M y y') (a : frW S S' F F' G G') (w' : wkR L n1 f' S' F' G') : WW M k P sh md Ff κ h S0 J0 F0 G0 Z L n1 f' S' J F' G' y' := by
  obtain ⟨-, h2, h3, h4, h5, h6⟩ := H
  exact ⟨H', h2.tr ho, ⟨h3.1.tr a.yy, h3.2.cw a⟩, h4.yy (J := J) (J' := J) a.yy, h5.nn a.nn, w'⟩
theorem WW.nu (H : WW M k P sh md Ff κ h S0 J0 F0 G0 Z L n0 f S J F G y) (H' : mo_at M S' J' F G y') (ho : outM M y y') (a : nuP S J S' J') : WW M k P sh md Ff κ h S0 J0 F0 G0 Z L n0 f S' J' F G y' := by
  obtain ⟨-, h2, h3, h4, h5, h6⟩ := H
  exact ⟨H', h2.tr ho, ⟨h3.1.tr a.yy, h3.2.cn a⟩, h4.yy (G := G) (G' := G) a.yy, h5.nn a.nn, h6.rg a.rg⟩
theorem WW.zz {Z' : Fa × Bool} (H : WW M k P sh md Ff κ h S0 J0 F0 G0 Z L n0 f S J F G y) (c : coP M k P sh md Ff Z' y S J F G y') : ∃ S' J' F' G', WW M k P sh md Ff κ h S0 J0 F0 G0 Z' L n0 f S' J' F' G' y' ∧ frZ S S' J J' F F' G G' := by
  obtain ⟨-, h2, h3, h4, h5, h6⟩ := H
  obtain ⟨S', J', F', G', H', ho, a, d⟩ := c
  exact ⟨S', J', F', G', ⟨H', h2.tr ho, ⟨h3.1.tr a.yy, h3.2.cz a⟩, h4.yy a.yy, d, h6.rg a.rg⟩, a⟩
def WWx (M k : Nat) (P : Pm) (sh : Nat → Option Sh) (md : Nat) (Ff : Fa) (κ : (Nat → Ce) × Int32) (h : gi_H) (S0 : Nat → Int32) (J0 : Nat → Int64) (F0 : Nat → Nat → Int32) (G0 : Nat → Nat → Int64) (Z : Fa × Bool) (L n0 : Nat) (f : Nat → Sl) (y : gi_H) : Prop := ∃ S J F G, WW M k P sh md Ff κ h S0 J0 F0 G0 Z L n0 f S J F G y
def WWj (M k : Nat) (P : Pm) (sh : Nat → Option Sh) (md : Nat) (Ff : Fa) (κ : (Nat → Ce) × Int32) (h : gi_H) (S0 : Nat → Int32) (J0 : Nat → Int64) (F0 : Nat → Nat → Int32) (G0 : Nat → Nat → Int64) (Z : Fa × Bool) (L n0 : Nat) (f : Nat → Sl) (F : Nat → Nat → Int32) (G : Nat → Nat → Int64) (q : Option Sp) (y : gi_H) : Prop := ∃ S J, WW M k P sh md Ff κ h S0 J0 F0 G0 Z L n0 f S J F G y ∧ ∀ z, q = some z → rsI J z
theorem ww_pushSpan (H : WW M k P sh md Ff κ h S0 J0 F0 G0 Z L n0 f S J F G y) (z : Sp) (h8 : n0 - L < 8) : gi_T l V y_Mo_pushSpan b_Mo_pushSpan 7 none 1 27 0 0 [.ref M, .long (eL z.1), .long (eL z.2.1), .long (eL z.2.2)] n y (fun v n' h' => v = none ∧ n' = n ∧ WWx M k P sh md Ff κ h S0 J0 F0 G0 Z L (n0 + 1) (upF f n0 (.inl z, -1)) h') := by
  refine gi_T.mono (c_Mo_pushSpan z H.2.2.2.2.2 h8 H.1) (fun r n' h' q => ?_)
  obtain ⟨q1, q2, S1, F1, G1, a1, a2, a3, a4⟩ := q
  exact ⟨q1, q2, _, _, _, _, H.wk a1 a2 a3 a4⟩
theorem ww_pushSet (H : WW M k P sh md Ff κ h S0 J0 F0 G0 Z L n0 f S J F G y) (b : Int32) (q : Bool) (h8 : n0 - L < 8) : gi_T l V y_Mo_pushSet b_Mo_pushSet 3 none 1 23 0 0 [.ref M, .int b, .int (bI q)] n y (fun v n' h' => v = none ∧ n' = n ∧ WWx M k P sh md Ff κ h S0 J0 F0 G0 Z L (n0 + 1) (upF f n0 (.inr (b, q), -1)) h') := by
  refine gi_T.mono (c_Mo_pushSet b q H.2.2.2.2.2 h8 H.1) (fun r n' h' q => ?_)
  obtain ⟨q1, q2, S1, F1, G1, a1, a2, a3, a4⟩ := q
  exact ⟨q1, q2, _, _, _, _, H.wk a1 a2 a3 a4⟩
theorem ww_markedSpan (H : WW M k P sh md Ff κ h S0 J0 F0 G0 Z L n0 f S J F G y) (z : Sp) {mk : Int32} (hmk : mk = -1 ∨ ∃ j, j < L ∧ mk = nI j) (hf : ∀ i, i < L → (f i).2 = -1) : gi_T l V y_Mo_markedSpan b_Mo_markedSpan 9 none 1 27 0 0 [.ref M, .int mk, .long (eL z.1), .long (eL z.2.1), .long (eL z.2.2)] n y (fun v n' h' => v = none ∧ n' = n ∧ WWx M k P sh md Ff κ h S0 J0 F0 G0 Z L n0 (tellF n0 f mk (.inl z)) h') := by
  refine gi_T.mono (c_Mo_markedSpan z H.2.2.2.2.2 hmk hf H.1) (fun r n' h' q => ?_)
  obtain ⟨q1, q2, S1, F1, G1, a1, a2, a3, a4⟩ := q
  exact ⟨q1, q2, _, _, _, _, H.wk a1 a2 a3 a4⟩
theorem ww_markedSet (H : WW M k P sh md Ff κ h S0 J0 F0 G0 Z L n0 f S J F G y) (b : Int32) (q : Bool) {mk : Int32} (hmk : mk = -1 ∨ ∃ j, j < L ∧ mk = nI j) (hf : ∀ i, i < L → (f i).2 = -1) : gi_T l V y_Mo_markedSet b_Mo_markedSet 5 none 1 23 0 0 [.ref M, .int mk, .int b, .int (bI q)] n y (fun v n' h' => v = none ∧ n' = n ∧ WWx M k P sh md Ff κ h S0 J0 F0 G0 Z L n0 (tellF n0 f mk (.inr (b, q))) h') := by
  refine gi_T.mono (c_Mo_markedSet b q H.2.2.2.2.2 hmk hf H.1) (fun r n' h' q => ?_)
  obtain ⟨q1, q2, S1, F1, G1, a1, a2, a3, a4⟩ := q
  exact ⟨q1, q2, _, _, _, _, H.wk a1 a2 a3 a4⟩
theorem ww_act (H : WW M k P sh md Ff κ h S0 J0 F0 G0 Z L n0 f S J F G y) (op : Nat) (z d : Sp) (h7 : 7 ≤ op) (h18 : op ≤ 18) (hz : okS z) (hd : okS d) (hz0 : op = 10 ∨ op = 11 → ¬ (d.1 = 0 ∧ d.2.1 = 0)) : gi_T l V y_Mo_act b_Mo_act 20 none 4 126 0 0 [.ref M, .int (nI op), .long (eL z.1), .long (eL z.2.1), .long (eL z.2.2), .long (eL d.1), .long (eL d.2.1), .long (eL d.2.2)] n y (fun v n' h' => v = none ∧ n' = n ∧ WWj M k P sh md Ff κ h S0 J0 F0 G0 Z L n0 f F G (some (actS op z d)) h') := by
  refine gi_T.mono (c_Mo_act op z d h7 h18 hz hd hz0 H.1) (fun r n' h' q => ?_)
  obtain ⟨q1, q2, S1, J1, a1, a2, a3, a4⟩ := q
  exact ⟨q1, q2, _, _, H.nu a1 a2 a3, fun z e => by cases e; exact a4⟩
theorem ww_within (H : WW M k P sh md Ff κ h S0 J0 F0 G0 Z L n0 f S J F G y) (z : Sp) (a b : Int) (hz : okS z) (a1 : -8589934592 ≤ a) (a2 : a ≤ 8589934592) (b1 : -8589934592 ≤ b) (b2 : b ≤ 8589934592) : gi_T l V y_Mo_within b_Mo_within 15 (some .boolean) 1 26 0 0 [.ref M, .long (eL z.1), .long (eL z.2.1), .long (eL z.2.2), .long (eL a), .long (eL b)] n y (fun v n' h' => v = some (.int (bI (withinS z a b).isSome)) ∧ n' = n ∧ WWj M k P sh md Ff κ h S0 J0 F0 G0 Z L n0 f F G (withinS z a b) h') := by
  refine gi_T.mono (c_Mo_within z a b hz a1 a2 b1 b2 H.1) (fun r n' h' q => ?_)
  obtain ⟨q1, q2, S1, J1, a1, a2, a3, a4⟩ := q
  exact ⟨q1, q2, _, _, H.nu a1 a2 a3.p, a4⟩
theorem ww_withoutEnd (H : WW M k P sh md Ff κ h S0 J0 F0 G0 Z L n0 f S J F G y) (z : Sp) (a : Int) (hz : okS z) (a1 : -4294967296 ≤ a) (a2 : a ≤ 4294967296) : gi_T l V y_Mo_withoutEnd b_Mo_withoutEnd 9 (some .boolean) 1 26 0 0 [.ref M, .long (eL z.1), .long (eL z.2.1), .long (eL z.2.2), .long (eL a)] n y (fun v n' h' => v = some (.int (bI (loseS z a).isSome)) ∧ n' = n ∧ WWj M k P sh md Ff κ h S0 J0 F0 G0 Z L n0 f F G (loseS z a) h') := by
  refine gi_T.mono (c_Mo_withoutEnd z a hz a1 a2 H.1) (fun r n' h' q => ?_)
  obtain ⟨q1, q2, S1, J1, a1, a2, a3, a4⟩ := q
  exact ⟨q1, q2, _, _, H.nu a1 a2 a3.p, a4⟩
theorem ww_set (H : WW M k P sh md Ff κ h S0 J0 F0 G0 Z L n0 f S J F G y) (z : Sp) (hz : okS z) : gi_T l V y_Mo_set b_Mo_set 7 none 0 0 0 0 [.ref M, .long (eL z.1), .long (eL z.2.1), .long (eL z.2.2)] n y (fun v n' h' => v = none ∧ n' = n ∧ WWj M k P sh md Ff κ h S0 J0 F0 G0 Z L n0 f F G (some z) h') := by
  obtain ⟨z1, z2, z3, -⟩ := id hz
  refine gi_T.mono (c_Mo_set z.1 z.2.1 z.2.2 (by omega) (by omega) (by omega) (by omega) H.1) (fun r n' h' q => ?_)
  obtain ⟨q1, q2, S1, J1, a1, a2, a3, a4⟩ := q
  rw [mk_self hz] at a4
  exact ⟨q1, q2, _, _, H.nu a1 a2 a3.p, fun z e => by cases e; exact a4⟩
theorem ww_ofSites (H : WW M k P sh md Ff κ h S0 J0 F0 G0 Z L n0 f S J F G y) (b : Int32) {ba off : Nat} (hb : (ba = 480 ∧ off = 0) ∨ (ba = 505 ∧ off = 32)) (hR : okF (tyF P sh) (rdF md Ff Z)) : gi_T l V y_Mo_ofSites b_Mo_ofSites 12 (some .boolean) 2 61 0 0 [.ref M, .int b, .int (nI off)] n y (fun v n' h' => v = some (.int (bI (gathF (rdF md Ff Z) ba b 25).isSome)) ∧ n' = n ∧ WWj M k P sh md Ff κ h S0 J0 F0 G0 Z L n0 f F G (gathF (rdF md Ff Z) ba b 25) h') := by
  refine gi_T.mono (c_Mo_ofSites b hb H.2.2.2.2.1 hR H.1) (fun r n' h' q => ?_)
  obtain ⟨q1, q2, S1, J1, a1, a2, a3, a4⟩ := q
  exact ⟨q1, q2, _, _, H.nu a1 a2 a3.p, a4⟩
theorem ww_comeTo (H : WW M k P sh md Ff κ h S0 J0 F0 G0 Z L n0 f S J F G y) (B : Built k P sh (siN k P sh) (wdF k P)) (hmd : md ≤ 2) {a : Nat} (hm : a < k) (hi : i < pN P 5 a) (hx : sh (60 * a + i) = some x) (hL : pN P 2 a = L) (hg : tyG P a x n0 f) : gi_T l V y_Mo_comeTo b_Mo_comeTo 7 none 3 68 0 0 [.ref M, .int (nI (60 * a + i))] n y (fun v n' h' => v = none ∧ n' = n ∧ ∃ S' J' F' G', WW M k P sh md Ff κ h S0 J0 F0 G0 (comeM md (grF (wdF k P)) Z (60 * a + i, n0, f)) L n0 f S' J' F' G' h' ∧ frZ S S' J J' F F' G G') := by
  refine gi_T.mono (c_Mo_comeTo B H.2.2.2.1 hmd hm hi hx (by rw [hL]; exact H.2.2.2.2.2.2.1) hg H.2.2.2.2.1 H.1) (fun r n' h' q => ?_)
  obtain ⟨q1, q2, q3⟩ := q
  obtain ⟨S', J', F', G', a1, a2⟩ := H.zz q3
  exact ⟨q1, q2, S', J', F', G', a1, a2⟩
theorem ww_tell (H : WW M k P sh md Ff κ h S0 J0 F0 G0 Z L n0 f S J F G y) {z : Sp} {n1 : Nat} {g : Nat → Sl} (hmd : md ≤ 2) (h1 : 480 ≤ t) (h2 : t < 542) (okc : okC (tyF P sh) (t, n1, g)) (hz : okS z) (hv : gvA n1 g = .inl z) : gi_T l V y_Mo_tell b_Mo_tell 8 none 2 61 0 0 [.ref M, .int (nI (tix t)), .long (eL z.1), .long (eL z.2.1), .long (eL z.2.2)] n y (fun v n' h' => v = none ∧ n' = n ∧ ∃ S' J' F' G', WW M k P sh md Ff κ h S0 J0 F0 G0 (comeM md (grF (wdF k P)) Z (t, n1, g)) L n0 f S' J' F' G' h' ∧ frZ S S' J J' F F' G G') := by
  refine gi_T.mono (c_Mo_tell hmd h1 h2 okc H.2.2.2.2.1 hz hv H.1) (fun r n' h' q => ?_)
  obtain ⟨q1, q2, q3⟩ := q
  obtain ⟨S', J', F', G', a1, a2⟩ := H.zz q3
  exact ⟨q1, q2, S', J', F', G', a1, a2⟩
theorem ww_tellSet (H : WW M k P sh md Ff κ h S0 J0 F0 G0 Z L n0 f S J F G y) {b : Int32} {q : Bool} {n1 : Nat} {g : Nat → Sl} (hmd : md ≤ 2) (h1 : 480 ≤ t) (h2 : t < 542) (okc : okC (tyF P sh) (t, n1, g)) (hv : gvA n1 g = .inr (b, q)) : gi_T l V y_Mo_tellSet b_Mo_tellSet 4 none 0 0 0 0 [.ref M, .int (nI (tix t)), .int b, .int (bI q)] n y (fun v n' h' => v = none ∧ n' = n ∧ ∃ S' J' F' G', WW M k P sh md Ff κ h S0 J0 F0 G0 (comeM md (grF (wdF k P)) Z (t, n1, g)) L n0 f S' J' F' G' h' ∧ frZ S S' J J' F F' G G') := by
  refine gi_T.mono (c_Mo_tellSet hmd h1 h2 okc H.2.2.2.2.1 hv H.1) (fun r n' h' q => ?_)
  obtain ⟨q1, q2, q3⟩ := q
  obtain ⟨S', J', F', G', a1, a2⟩ := H.zz q3
  exact ⟨q1, q2, S', J', F', G', a1, a2⟩
theorem WW.sp (H : WW M k P sh md Ff κ h S0 J0 F0 G0 Z L n0 f S J F G y) {j : Nat} {z : Sp} (hj : j < n0) (e : (f j).1 = .inl z) : G 52 (sl L j) = eL z.1 ∧ G 53 (sl L j) = eL z.2.1 ∧ G 54 (sl L j) = eL z.2.2 := by
  have q := (H.2.2.2.2.2.2.1 j hj).1
  rw [e] at q
  exact q
theorem WW.st (H : WW M k P sh md Ff κ h S0 J0 F0 G0 Z L n0 f S J F G y) {j : Nat} {b : Int32} {o : Bool} (hj : j < n0) (e : (f j).1 = .inr (b, o)) : F 55 (sl L j) = b ∧ F 56 (sl L j) = bI o := by
  have q := (H.2.2.2.2.2.2.1 j hj).1
  rw [e] at q
  exact q
theorem WW.mk (H : WW M k P sh md Ff κ h S0 J0 F0 G0 Z L n0 f S J F G y) {j : Nat} (hj : j < n0) (hL : L ≤ j) : F 57 (sl L j) = (f j).2 := (H.2.2.2.2.2.2.1 j hj).2 hL
theorem WW.fb (H : WW M k P sh md Ff κ h S0 J0 F0 G0 Z L n0 f S J F G y) : L ≤ 6 ∧ L ≤ n0 ∧ n0 - L ≤ 8 ∧ S 58 = nI (n0 - L + 6) := ⟨H.2.2.2.2.2.2.2.1, H.2.2.2.2.2.2.2.2.1, H.2.2.2.2.2.2.2.2.2, H.2.2.2.2.2.1⟩
theorem WW.start (H : mo_at M S J F G h) (hp : pgR k P sh S F) (hD : mdR k P sh md Ff Z S F G) (hw : wkR L n0 f S F G) (hk : kpC κ S F G) : WW M k P sh md Ff κ h S J F G Z L n0 f S J F G h := ⟨H, outM.rf, ⟨frY.rf, hk⟩, hp, hD, hw⟩
end RC8
