-- needs: 86 43
section PAS
variable {l : Launch} {V : gi_V} {n : Nat} {h h' h0 : gi_H} {a pr bu fr to k m md : Nat} {P : Pm} {S : Nat → Int32} {x y nx ny ar ou be ab : mV} {Wk Wy En Lo : mR} {F : Fa} {Φ : Nat → mR} {T : Nat → Ty} {wd : Nat → Bool} {cb : Bool}
variable {f : Nat → Sl} {n0 i : Nat} {sn : Nat → Nat} {Ff : Fa} {Z : Fa × Bool} {hA hB : gi_H}
variable {sh : Nat → Option Sh} {wd0 : Nat → Bool} {X0 : Nat} {ct cr rts : Int32}
/-- the Stepper's world: the facts as they are -/
def PW (a pr bu fr to k md : Nat) (P : Pm) (sn : Nat → Nat) (wd : Nat → Bool) (T : Nat → Ty) (Ff : Fa) (Z : Fa × Bool) (hA h : gi_H) : Prop := ∃ hC S' x' y' nx' ny' ar' ou' be' ab' Wk' Wy' En' Lo', S' 6 = nI md ∧ S' 0 = bI Z.2 ∧ SB a pr bu fr to k md P sn wd T Ff Z hA hC ∧ stO a pr bu fr to hC S' x' y' nx' ny' ar' ou' be' ab' Wk' Wy' En' Lo' h
theorem PW.out (H : PW a pr bu fr to k md P sn wd T Ff Z hA h) : outW a to hA h := by
  obtain ⟨hC, S', x', y', nx', ny', ar', ou', be', ab', Wk', Wy', En', Lo', h1, h2, B, Q⟩ := H
  exact B.2.2.2.2.2.2.tr (outW.s Q.2)
theorem PW.hpr (H : PW a pr bu fr to k md P sn wd T Ff Z hA h) (d : DJ a pr bu fr to) : pr_at pr (nI k) P h := by
  obtain ⟨hC, S', x', y', nx', ny', ar', ou', be', ab', Wk', Wy', En', Lo', h1, h2, B, Q⟩ := H
  exact B.hpr d Q.2
theorem PW.ob (H : PW a pr bu fr to k md P sn wd T Ff Z hA h) : ∃ fs, h a = some (gi_O 6 fs) := by
  obtain ⟨hC, S', x', y', nx', ny', ar', ou', be', ab', Wk', Wy', En', Lo', h1, h2, B, Q⟩ := H
  exact ⟨_, Q.ob⟩
/-- a step, a root, a pass, in a mood -/
def stpM (P : Pm) (sn : Nat → Nat) (md : Nat) (wd : Nat → Bool) (fr to : Nat) (Ff : Fa) (Z : Fa × Bool) (p : Nat) : Fa × Bool := if (frF fr to Ff Z p).told = true then (outs P sn (frF fr to Ff Z) p).foldl (comeM md wd) Z else Z
def inS (P : Pm) (sn : Nat → Nat) (md : Nat) (wd : Nat → Bool) (fr to : Nat) (Ff : Fa) (m : Nat) (Z : Fa × Bool) : Nat → Fa × Bool
  | 0 => Z
  | i + 1 => stpM P sn md wd fr to Ff (inS P sn md wd fr to Ff m Z i) (60 * m + i)
def ouS (P : Pm) (sn : Nat → Nat) (md : Nat) (wd : Nat → Bool) (fr to : Nat) (Ff : Fa) (Z : Fa × Bool) : Nat → Fa × Bool
  | 0 => Z
  | m + 1 => inS P sn md wd fr to Ff m (ouS P sn md wd fr to Ff Z m) (pN P 5 m)
def rtS (P : Pm) (md : Nat) (wd : Nat → Bool) (rts : Int32) (Z : Fa × Bool) : Nat → Fa × Bool
  | 0 => Z
  | m + 1 => if bitA rts m = true then comeM md wd (rtS P md wd rts Z m) (60 * m + 0, pN P 2 m, rtF P m) else rtS P md wd rts Z m
def pasS (P : Pm) (sn : Nat → Nat) (k md : Nat) (wd : Nat → Bool) (fr to : Nat) (Ff : Fa) (rts : Int32) (Z : Fa × Bool) : Fa × Bool := ouS P sn md wd fr to Ff (rtS P md wd rts Z k) k
theorem comeM_told {md : Nat} {wd : Nat → Bool} {X : Fa × Bool} {c : Con} {t : Nat} (h : (X.1 t).told = true) : ((comeM md wd X c).1 t).told = true := by
  unfold comeM
  split
  · exact h
  · by_cases e : t = c.1
    · subst e
      rw [come_at]
      exact joinR_told
    · rw [come_ne e]
      exact h
theorem fold_told {md : Nat} {wd : Nat → Bool} {t : Nat} : ∀ (cs : List Con) (X : Fa × Bool), (X.1 t).told = true → ((cs.foldl (comeM md wd) X).1 t).told = true
  | [], _, h => h
  | _ :: cs, _, h => fold_told cs _ (comeM_told h)
theorem stpM_told {md p : Nat} {wd : Nat → Bool} {t : Nat} (h : (Z.1 t).told = true) : ((stpM P sn md wd fr to Ff Z p).1 t).told = true := by
  unfold stpM
  split
  · exact fold_told _ _ h
  · exact h
/-- what is asked of the facts that are read -/
def rdO (T : Nat → Ty) (F : Fa) : Prop := okF T F ∧ ∀ j, j < 4 → (F (530 + j)).told = true
theorem p_step (h2 : md ≤ 2) (hB0 : Built k P sh sn wd0) (hm : m < k) (hi : i < pN P 5 m) (d : DJ a pr bu fr to) (H : PW a pr bu fr to k md P sn (grF wd0) (tyF P sh) Ff Z hA h) (hr : rdO (tyF P sh) (frF fr to Ff Z)) : gi_T l V y_St_step b_St_step 7 none 5 142 0 0 [.ref a, .int (nI m), .int (nI i)] n h (fun v n' h' => v = none ∧ n' = n ∧ PW a pr bu fr to k md P sn (grF wd0) (tyF P sh) Ff (stpM P sn md (grF wd0) fr to Ff Z (60 * m + i)) hA h') := by
  obtain ⟨hC, S', x', y', nx', ny', ar', ou', be', ab', Wk', Wy', En', Lo', q1, q2, B, Q⟩ := H
  exact c_St_step h2 hB0 hm hi d B q1 q2 Q hr.1 hr.2
theorem p_root (h2 : md ≤ 2) (hB0 : Built k P sh sn wd0) (hm : m < k) (d : DJ a pr bu fr to) (H : PW a pr bu fr to k md P sn (grF wd0) (tyF P sh) Ff Z hA h) : gi_T l V y_St_enterRoot b_St_enterRoot 3 none 4 102 0 0 [.ref a, .int (nI m)] n h (fun v n' h' => v = none ∧ n' = n ∧ PW a pr bu fr to k md P sn (grF wd0) (tyF P sh) Ff (comeM md (grF wd0) Z (60 * m + 0, pN P 2 m, rtF P m)) hA h') := by
  obtain ⟨hC, S', x', y', nx', ny', ar', ou', be', ab', Wk', Wy', En', Lo', q1, q2, B, Q⟩ := H
  have hW := hB0.wf
  have w8 := hW.k8
  have okc : okC (tyF P sh) (60 * m + 0, pN P 2 m, rtF P m) := okC_st (i := 0) (by omega) (by omega) (hB0.first m hm).2 rt_ty
  have hwm : grF wd0 (60 * m) = true := by unfold grF; rw [hB0.w0 m hm]; simp
  -- all as of now
  have Q2 := Q.ext (h' := h) (fun _ _ _ => rfl)
  have hp' := B.hpr d Q.2
  have hb' := B.hbu d Q.2
  obtain ⟨Φf, hf', hf2⟩ := B.hfr d Q.2
  have d5 := d.2.2.2.2.1
  have d6 := d.2.2.2.2.2.1
  have d7 := d.2.2.2.2.2.2
  have D : stF to md (grF wd0) (tyF P sh) Z.1 Z.2 S' h := ⟨h2, q1, q2, B.hto d Q.2, B.2.2.2.2.1, fun z t ht hw htl => by
    have := (B.2.2.2.2.2.1 z t ht hw).2 htl
    have := ty14 hB0 t ht
    omega⟩
  refine (c_St_enterRoot Q2 hW hm hp' d.1 D d.2.2.1 hwm okc.2.1).mono (fun v n' h' hp => ?_)
  obtain ⟨p1, p2, ⟨Φ', p3, p3'⟩, ⟨En9, p4⟩, p5⟩ := hp
  refine ⟨p1, p2, h', _, _, _, _, _, _, _, _, _, _, _, _, _, by simp [upS, q1], by simp [upS], ⟨hp'.keep2 (fun b b1 b2 => p5 b (by have := d.1; omega) (by omega)), hb'.keep (fun b b1 b2 => p5 b (by have := d.2.1; omega) (by omega)), ⟨Φ', p3, p3'⟩, ?_, comeM_ok B.2.2.2.2.1 okc, fun z => ?_, (B.2.2.2.2.2.2.tr (outW.s Q.2)).tr p5⟩, p4⟩
  · by_cases e : fr = to
    · subst e
      refine ⟨Φ', p3, ?_⟩
      rw [if_pos rfl]
      exact p3'
    · rw [if_neg e] at hf2 ⊢
      exact ⟨Φf, hf'.keep (fun b b1 b2 => p5 b (by have := d.2.2.2.1; omega) (by omega)), hf2⟩
  · subst z
    rw [comeM_0]
    exact chI_come B.2.2.2.2.1 okc (B.2.2.2.2.2.1 rfl)
set_option maxHeartbeats 4000000 in
set_option maxRecDepth 100000 in
theorem c_H_isRoot (r : Int32) (hm : m < 32) : gi_T l V y_H_isRoot b_H_isRoot 2 (some .boolean) 0 0 0 0 [.int r, .int (nI m)] n h (gi_is (some (.int (bI (bitA r m)))) n h) := by
  refine gi_enter (by decide) (Nat.le_of_ble_eq_true rfl) ?_
  intro _ _ _ _ _ _ _ _ C hr hnm
  refine gi_iload_n (q := 1) (i := 0) C (dm_H_isRoot 0 rfl) rfl rfl rfl ?_
  refine gi_iload_n (q := 2) (i := 1) C (dm_H_isRoot 1 rfl) rfl rfl rfl ?_
  refine gi_ishr (q := 3) C (dm_H_isRoot 2 rfl) rfl ?_
  refine gi_iconst (q := 4) (v := 1) C (dm_H_isRoot 3 rfl) rfl (by decide) ?_
  refine gi_iand (q := 5) C (dm_H_isRoot 4 rfl) rfl ?_
  refine gi_iconst (q := 6) (v := 1) C (dm_H_isRoot 5 rfl) rfl (by decide) ?_
  refine gi_icmp_ne (q := 9) (tgt := 13) C (dm_H_isRoot 6 rfl) rfl (by decide) (fun c6 => ?_) (fun c6 => ?_)
  · refine gi_iconst (q := 14) (v := 0) C (dm_H_isRoot 9 rfl) rfl (by decide) ?_
    refine gi_zret C hr (dm_H_isRoot 10 rfl) rfl ?_
    refine ⟨?_, rfl, rfl⟩
    first
      | (rw [show bitA r m = true from (sh_bit r hm).mp c6]; rfl)
      | (rw [show bitA r m = false from (by cases z : bitA r m <;> first | rfl | exact absurd ((sh_bit r hm).mpr z) c6)]; rfl)
  · refine gi_iconst (q := 10) (v := 1) C (dm_H_isRoot 7 rfl) rfl (by decide) ?_
    refine gi_goto (tgt := 14) C (dm_H_isRoot 8 rfl) (by decide) ?_
    refine gi_zret C hr (dm_H_isRoot 10 rfl) rfl ?_
    refine ⟨?_, rfl, rfl⟩
    first
      | (rw [show bitA r m = true from (sh_bit r hm).mp c6]; rfl)
      | (rw [show bitA r m = false from (by cases z : bitA r m <;> first | rfl | exact absurd ((sh_bit r hm).mpr z) c6)]; rfl)
theorem hs_keep {X0 : Nat} {h h' : gi_H} (H : hs_ob X0 ct cr h) (e : h' X0 = h X0) : hs_ob X0 ct cr h' := by
  unfold hs_ob at *
  rw [e]
  exact H
/-- where a house keeps what it has -/
def DH (X0 fr to : Nat) : Prop := (fr = X0 + 17 ∨ fr = X0 + 8431) ∧ (to = X0 + 17 ∨ to = X0 + 8431)
theorem DH.dj {X0 fr to : Nat} (h : DH X0 fr to) : DJ (X0 + 16845) (X0 + 1) (X0 + 9) fr to := by
  unfold DJ
  obtain ⟨h1, h2⟩ := h
  omega
set_option maxHeartbeats 4000000 in
set_option maxRecDepth 100000 in
theorem c_H_pass (h2 : md ≤ 2) (hB0 : Built k P sh sn wd0) (dh : DH X0 fr to) (HX : hs_ob X0 ct cr hA) (H : PW (X0 + 16845) (X0 + 1) (X0 + 9) fr to k md P sn (grF wd0) (tyF P sh) Ff Z hA h) (hFo : fr = to ∨ rdO (tyF P sh) Ff) (hfl : ∀ j, j < 4 → (Z.1 (530 + j)).told = true) : gi_T l V y_H_pass b_H_pass 4 none 6 168 0 0 [.ref X0, .int rts] n h (fun v n' h' => v = none ∧ n' = n ∧ PW (X0 + 16845) (X0 + 1) (X0 + 9) fr to k md P sn (grF wd0) (tyF P sh) Ff (pasS P sn k md (grF wd0) fr to Ff rts Z) hA h' ∧ ∀ j, j < 4 → ((pasS P sn k md (grF wd0) fr to Ff rts Z).1 (530 + j)).told = true) := by
  refine gi_enter (by decide) (Nat.le_of_ble_eq_true rfl) ?_
  intro _ _ _ _ _ _ _ _ C hr hnm
  have hW := hB0.wf
  have w8 := hW.k8
  have d := dh.dj
  have rdk : ∀ (Y : Fa × Bool) {g : gi_H}, PW (X0 + 16845) (X0 + 1) (X0 + 9) fr to k md P sn (grF wd0) (tyF P sh) Ff Y hA g → (∀ j, j < 4 → (Y.1 (530 + j)).told = true) → rdO (tyF P sh) (frF fr to Ff Y) := by
    rintro Y g ⟨hC, S', x', y', nx', ny', ar', ou', be', ab', Wk', Wy', En', Lo', q1, q2, B, Q⟩ ht
    by_cases e : fr = to
    · unfold frF
      rw [if_pos e]
      exact ⟨B.2.2.2.2.1, ht⟩
    · unfold frF
      rw [if_neg e]
      exact hFo.resolve_left e
  refine gi_iconst (q := 1) (v := 0) C (dm_H_pass 0 rfl) rfl (by decide) ?_
  refine gi_istore_n (q := 2) (i := 2) C (dm_H_pass 1 rfl) rfl rfl (Nat.le_of_ble_eq_true rfl) ?_
  refine gi_while (σ := Nat) (fun m => k - m) (fun m => [(2, .int (nI m)), (0, .ref X0), (1, .int rts)]) (fun _ => n) (fun _ => 0) (fun _ => 0) (fun m y => m ≤ k ∧ PW (X0 + 16845) (X0 + 1) (X0 + 9) fr to k md P sn (grF wd0) (tyF P sh) Ff (rtS P md (grF wd0) rts Z m) hA y ∧ ∀ j, j < 4 → (((rtS P md (grF wd0) rts Z m)).1 (530 + j)).told = true) 0 ⟨Nat.zero_le _, H, hfl⟩ ?_ (List.forall_mem_cons.mpr ⟨rfl, List.forall_mem_cons.mpr ⟨rfl, List.forall_mem_cons.mpr ⟨rfl, fun _ h => absurd h List.not_mem_nil⟩⟩⟩) rfl rfl rfl
  rintro m y' ⟨hm, PY, PI⟩ ih1
  try dsimp only at *
  have hx : y' X0 = hA X0 := PY.out X0 (by omega) (by obtain ⟨d1, d2⟩ := dh; omega)
  have prY := PY.hpr d
  obtain ⟨fsY, oY⟩ := PY.ob
  refine gi_iload_n (q := 3) (i := 2) C (dm_H_pass 2 rfl) rfl rfl rfl ?_
  refine gi_aload_n (q := 4) (i := 0) C (dm_H_pass 3 rfl) rfl rfl rfl ?_
  refine gi_get (q := 7) C (dm_H_pass 4 rfl) rfl fl_H_12 (by first | exact hx.trans HX | exact prY.1) rfl ?_
  refine gi_get (q := 10) C (dm_H_pass 5 rfl) rfl fl_H_108 (by first | exact hx.trans HX | exact prY.1) rfl ?_
  refine gi_icmp_ge (q := 13) (tgt := 35) C (dm_H_pass 6 rfl) rfl (by decide) (fun c10 => ?_) (fun c10 => ?_)
  · have hik : k = m := by
      rcases Nat.lt_or_ge m k with q | q
      · exact absurd c10 (Int32.not_le.mpr (nI_lt q (by omega)))
      · omega
    subst hik
    refine gi_iconst (q := 36) (v := 0) C (dm_H_pass 17 rfl) rfl (by decide) ?_
    refine gi_istore_n (q := 37) (i := 2) C (dm_H_pass 18 rfl) rfl rfl (Nat.le_of_ble_eq_true rfl) ?_
    refine gi_while (σ := Nat) (fun m => k - m) (fun m => [(2, .int (nI m)), (0, .ref X0), (1, .int rts)]) (fun _ => n) (fun _ => 0) (fun _ => 0) (fun m y => m ≤ k ∧ PW (X0 + 16845) (X0 + 1) (X0 + 9) fr to k md P sn (grF wd0) (tyF P sh) Ff (ouS P sn md (grF wd0) fr to Ff (rtS P md (grF wd0) rts Z k) m) hA y ∧ ∀ j, j < 4 → (((ouS P sn md (grF wd0) fr to Ff (rtS P md (grF wd0) rts Z k) m)).1 (530 + j)).told = true) 0 ⟨Nat.zero_le _, PY, PI⟩ ?_ (List.forall_mem_cons.mpr ⟨rfl, List.forall_mem_cons.mpr ⟨rfl, List.forall_mem_cons.mpr ⟨rfl, fun _ h => absurd h List.not_mem_nil⟩⟩⟩) rfl rfl rfl
    clear PY
    rintro m y' ⟨hm', PY, PI⟩ ih2
    try dsimp only at *
    have hx : y' X0 = hA X0 := PY.out X0 (by omega) (by obtain ⟨d1, d2⟩ := dh; omega)
    have prY := PY.hpr d
    obtain ⟨fsY, oY⟩ := PY.ob
    refine gi_iload_n (q := 38) (i := 2) C (dm_H_pass 19 rfl) rfl rfl rfl ?_
    refine gi_aload_n (q := 39) (i := 0) C (dm_H_pass 20 rfl) rfl rfl rfl ?_
    refine gi_get (q := 42) C (dm_H_pass 21 rfl) rfl fl_H_12 (by first | exact hx.trans HX | exact prY.1) rfl ?_
    refine gi_get (q := 45) C (dm_H_pass 22 rfl) rfl fl_H_108 (by first | exact hx.trans HX | exact prY.1) rfl ?_
    refine gi_icmp_ge (q := 48) (tgt := 83) C (dm_H_pass 23 rfl) rfl (by decide) (fun c45 => ?_) (fun c45 => ?_)
    · have hik : k = m := by
        rcases Nat.lt_or_ge m k with q | q
        · exact absurd c45 (Int32.not_le.mpr (nI_lt q (by omega)))
        · omega
      subst hik
      refine gi_vret C hr (dm_H_pass 41 rfl) ?_
      exact ⟨rfl, rfl, PY, PI⟩
    · have hlt : m < k := by
        rcases Nat.lt_or_ge m k with q | q
        · exact q
        · exact absurd (nI_le q (by omega)) c45
      have hm := hlt
      have wm := wf_ar hW hm
      refine gi_iconst (q := 49) (v := 0) C (dm_H_pass 24 rfl) rfl (by decide) ?_
      refine gi_istore_n (q := 50) (i := 3) C (dm_H_pass 25 rfl) rfl rfl (Nat.le_of_ble_eq_true rfl) ?_
      refine gi_while (σ := Nat) (fun i => pN P 5 m - i) (fun i => [(3, .int (nI i)), (2, .int (nI m)), (0, .ref X0), (1, .int rts)]) (fun _ => n) (fun _ => 0) (fun _ => 0) (fun i y => i ≤ pN P 5 m ∧ PW (X0 + 16845) (X0 + 1) (X0 + 9) fr to k md P sn (grF wd0) (tyF P sh) Ff (inS P sn md (grF wd0) fr to Ff m (ouS P sn md (grF wd0) fr to Ff (rtS P md (grF wd0) rts Z k) m) i) hA y ∧ ∀ j, j < 4 → (((inS P sn md (grF wd0) fr to Ff m (ouS P sn md (grF wd0) fr to Ff (rtS P md (grF wd0) rts Z k) m) i)).1 (530 + j)).told = true) 0 ⟨Nat.zero_le _, PY, PI⟩ ?_ (List.forall_mem_cons.mpr ⟨rfl, List.forall_mem_cons.mpr ⟨rfl, List.forall_mem_cons.mpr ⟨rfl, List.forall_mem_cons.mpr ⟨rfl, fun _ h => absurd h List.not_mem_nil⟩⟩⟩⟩) rfl rfl rfl
      clear PY
      rintro i y' ⟨hi, PY, PI⟩ ih3
      try dsimp only at *
      have hx : y' X0 = hA X0 := PY.out X0 (by omega) (by obtain ⟨d1, d2⟩ := dh; omega)
      have prY := PY.hpr d
      obtain ⟨fsY, oY⟩ := PY.ob
      refine gi_iload_n (q := 51) (i := 3) C (dm_H_pass 26 rfl) rfl rfl rfl ?_
      refine gi_aload_n (q := 52) (i := 0) C (dm_H_pass 27 rfl) rfl rfl rfl ?_
      refine gi_get (q := 55) C (dm_H_pass 28 rfl) rfl fl_H_12 (by first | exact hx.trans HX | exact prY.1) rfl ?_
      refine gi_iload_n (q := 56) (i := 2) C (dm_H_pass 29 rfl) rfl rfl rfl ?_
      refine gi_callv 1 (q := 59) C (dm_H_pass 30 rfl) rfl my_Pr_lengthOf lk_H_192 im_Pr_lengthOf rfl (q_len hW hm prY) prY.1 rfl rfl ⟨(Nat.le_of_ble_eq_true rfl), (Nat.le_of_ble_eq_true rfl)⟩ (Nat.le_of_ble_eq_true rfl) ⟨(Nat.le_of_ble_eq_true rfl), (Nat.le_of_ble_eq_true rfl)⟩ (fun r56 n56 h56 e56 => ?_)
      obtain ⟨rfl, q56, u56⟩ := e56
      rw [q56, u56]
      refine gi_icmp_ge (q := 62) (tgt := 77) C (dm_H_pass 31 rfl) rfl (by decide) (fun c59 => ?_) (fun c59 => ?_)
      · have hik : (pN P 5 m) = i := by
          rcases Nat.lt_or_ge i (pN P 5 m) with q | q
          · exact absurd c59 (Int32.not_le.mpr (nI_lt q (by omega)))
          · omega
        subst hik
        refine gi_iinc (q := 80) (v := 1) C (dm_H_pass 39 rfl) rfl rfl (by decide) (Nat.le_of_ble_eq_true rfl) ?_
        refine gi_goto (tgt := 37) C (dm_H_pass 40 rfl) (by decide) ?_
        refine gi_close (ih2 (m + 1) _ ⟨hm, PY, PI⟩ (by omega)) (List.forall_mem_cons.mpr ⟨(by simp [gi_look, nI_1]), List.forall_mem_cons.mpr ⟨rfl, List.forall_mem_cons.mpr ⟨rfl, fun _ h => absurd h List.not_mem_nil⟩⟩⟩) rfl rfl rfl
      · have hlt : i < (pN P 5 m) := by
          rcases Nat.lt_or_ge i (pN P 5 m) with q | q
          · exact q
          · exact absurd (nI_le q (by omega)) c59
        refine gi_aload_n (q := 63) (i := 0) C (dm_H_pass 32 rfl) rfl rfl rfl ?_
        refine gi_get (q := 66) C (dm_H_pass 33 rfl) rfl fl_H_40 (by first | exact hx.trans HX | exact prY.1) rfl ?_
        refine gi_iload_n (q := 67) (i := 2) C (dm_H_pass 34 rfl) rfl rfl rfl ?_
        refine gi_iload_n (q := 68) (i := 3) C (dm_H_pass 35 rfl) rfl rfl rfl ?_
        refine gi_callv 2 (q := 71) C (dm_H_pass 36 rfl) rfl my_St_step lk_H_213 im_St_step rfl (p_step h2 hB0 hm hlt d PY (rdk _ PY PI)) oY rfl rfl ⟨(Nat.le_of_ble_eq_true rfl), (Nat.le_of_ble_eq_true rfl)⟩ (Nat.le_of_ble_eq_true rfl) ⟨(Nat.le_of_ble_eq_true rfl), (Nat.le_of_ble_eq_true rfl)⟩ (fun r68 n68 h68 e68 => ?_)
        obtain ⟨rfl, rfl, P68⟩ := e68
        refine gi_iinc (q := 74) (v := 1) C (dm_H_pass 37 rfl) rfl rfl (by decide) (Nat.le_of_ble_eq_true rfl) ?_
        refine gi_goto (tgt := 50) C (dm_H_pass 38 rfl) (by decide) ?_
        refine gi_close (ih3 (i + 1) _ ⟨hlt, P68, fun j hj => stpM_told (PI j hj)⟩ (by omega)) (List.forall_mem_cons.mpr ⟨(by simp [gi_look, nI_1]), List.forall_mem_cons.mpr ⟨rfl, List.forall_mem_cons.mpr ⟨rfl, List.forall_mem_cons.mpr ⟨rfl, fun _ h => absurd h List.not_mem_nil⟩⟩⟩⟩) rfl rfl rfl
  · have hlt : m < k := by
      rcases Nat.lt_or_ge m k with q | q
      · exact q
      · exact absurd (nI_le q (by omega)) c10
    refine gi_iload_n (q := 14) (i := 1) C (dm_H_pass 7 rfl) rfl rfl rfl ?_
    refine gi_iload_n (q := 15) (i := 2) C (dm_H_pass 8 rfl) rfl rfl rfl ?_
    refine gi_calls 2 (q := 18) C (dm_H_pass 9 rfl) rfl my_H_isRoot lk_H_207 sm_H_isRoot (c_H_isRoot rts (m := m) (by omega)) rfl rfl ⟨(Nat.le_of_ble_eq_true rfl), (Nat.le_of_ble_eq_true rfl)⟩ (Nat.le_of_ble_eq_true rfl) ⟨(Nat.le_of_ble_eq_true rfl), (Nat.le_of_ble_eq_true rfl)⟩ (fun r15 n15 h15 e15 => ?_)
    obtain ⟨rfl, q15, u15⟩ := e15
    rw [q15, u15]
    refine gi_if_eq (q := 21) (tgt := 29) C (dm_H_pass 10 rfl) rfl (by decide) (fun c18 => ?_) (fun c18 => ?_)
    · refine gi_iinc (q := 32) (v := 1) C (dm_H_pass 15 rfl) rfl rfl (by decide) (Nat.le_of_ble_eq_true rfl) ?_
      refine gi_goto (tgt := 2) C (dm_H_pass 16 rfl) (by decide) ?_
      first
        | (have e : rtS P md (grF wd0) rts Z (m + 1) = comeM md (grF wd0) (rtS P md (grF wd0) rts Z m) (60 * m + 0, pN P 2 m, rtF P m) := by
             show (if bitA rts m = true then _ else _) = _
             rw [if_pos (bI_t c18)]
           refine gi_close (ih1 (m + 1) _ ⟨hlt, by rw [e]; exact P26, by rw [e]; exact fun j hj => comeM_told (PI j hj)⟩ (by omega)) (List.forall_mem_cons.mpr ⟨(by simp [gi_look, nI_1]), List.forall_mem_cons.mpr ⟨rfl, List.forall_mem_cons.mpr ⟨rfl, fun _ h => absurd h List.not_mem_nil⟩⟩⟩) rfl rfl rfl)
        | (have e : rtS P md (grF wd0) rts Z (m + 1) = rtS P md (grF wd0) rts Z m := by
             show (if bitA rts m = true then _ else _) = _
             rw [if_neg (by rw [bI_fa c18]; decide)]
           refine gi_close (ih1 (m + 1) _ ⟨hlt, by rw [e]; exact PY, by rw [e]; exact PI⟩ (by omega)) (List.forall_mem_cons.mpr ⟨(by simp [gi_look, nI_1]), List.forall_mem_cons.mpr ⟨rfl, List.forall_mem_cons.mpr ⟨rfl, fun _ h => absurd h List.not_mem_nil⟩⟩⟩) rfl rfl rfl)
    · refine gi_aload_n (q := 22) (i := 0) C (dm_H_pass 11 rfl) rfl rfl rfl ?_
      refine gi_get (q := 25) C (dm_H_pass 12 rfl) rfl fl_H_40 (by first | exact hx.trans HX | exact prY.1) rfl ?_
      refine gi_iload_n (q := 26) (i := 2) C (dm_H_pass 13 rfl) rfl rfl rfl ?_
      refine gi_callv 1 (q := 29) C (dm_H_pass 14 rfl) rfl my_St_enterRoot lk_H_210 im_St_enterRoot rfl (p_root h2 hB0 hlt d PY) oY rfl rfl ⟨(Nat.le_of_ble_eq_true rfl), (Nat.le_of_ble_eq_true rfl)⟩ (Nat.le_of_ble_eq_true rfl) ⟨(Nat.le_of_ble_eq_true rfl), (Nat.le_of_ble_eq_true rfl)⟩ (fun r26 n26 h26 e26 => ?_)
      obtain ⟨rfl, rfl, P26⟩ := e26
      refine gi_iinc (q := 32) (v := 1) C (dm_H_pass 15 rfl) rfl rfl (by decide) (Nat.le_of_ble_eq_true rfl) ?_
      refine gi_goto (tgt := 2) C (dm_H_pass 16 rfl) (by decide) ?_
      first
        | (have e : rtS P md (grF wd0) rts Z (m + 1) = comeM md (grF wd0) (rtS P md (grF wd0) rts Z m) (60 * m + 0, pN P 2 m, rtF P m) := by
             show (if bitA rts m = true then _ else _) = _
             rw [if_pos (bI_t c18)]
           refine gi_close (ih1 (m + 1) _ ⟨hlt, by rw [e]; exact P26, by rw [e]; exact fun j hj => comeM_told (PI j hj)⟩ (by omega)) (List.forall_mem_cons.mpr ⟨(by simp [gi_look, nI_1]), List.forall_mem_cons.mpr ⟨rfl, List.forall_mem_cons.mpr ⟨rfl, fun _ h => absurd h List.not_mem_nil⟩⟩⟩) rfl rfl rfl)
        | (have e : rtS P md (grF wd0) rts Z (m + 1) = rtS P md (grF wd0) rts Z m := by
             show (if bitA rts m = true then _ else _) = _
             rw [if_neg (by rw [bI_fa c18]; decide)]
           refine gi_close (ih1 (m + 1) _ ⟨hlt, by rw [e]; exact PY, by rw [e]; exact PI⟩ (by omega)) (List.forall_mem_cons.mpr ⟨(by simp [gi_look, nI_1]), List.forall_mem_cons.mpr ⟨rfl, List.forall_mem_cons.mpr ⟨rfl, fun _ h => absurd h List.not_mem_nil⟩⟩⟩) rfl rfl rfl)
end PAS
