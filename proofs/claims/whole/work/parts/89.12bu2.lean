-- needs: 89.11
section BU2
variable {l : Launch} {V : gi_V} {n : Nat} {h h' h0 : gi_H} {bu pr k m : Nat} {S : Nat → Int32} {F : Nat → Nat → Int32} {P : Pm}
theorem nn_nI {a : Int32} (h : 0 ≤ a.toInt) : a = nI a.toNatClampNeg ∧ a.toInt = (a.toNatClampNeg : Int) := by
  have := a.toInt_lt
  have e : a.toInt = (a.toNatClampNeg : Int) := by
    unfold Int32.toNatClampNeg
    omega
  refine ⟨?_, e⟩
  apply Int32.toInt_inj.mp
  show _ = (Int32.ofNat a.toNatClampNeg).toInt
  rw [Int32.toInt_ofNat_of_lt (by omega)]
  exact e
/-! taking and putting -/
def tkK (w : Nat) (x : Sh) : Option Sh := if x.1 = 0 then none else if kS w x = true then some (dpS x) else none
def tkW : Nat → Nat → Sh → Option Sh
  | 0, _, x => some x
  | f + 1, z, x => if z = 0 then some x else (tkK (z % 4) x).bind (tkW f (z / 4))
def takN (o : Nat) : Nat := (gi_tkL.getD o 0).toNatClampNeg
theorem takN_v : ∀ o : Nat, o < 36 → gi_tkL.getD o 0 = nI (takN o) ∧ takN o < 64 := by decide +kernel
def tkP (P : Pm) (m o a : Nat) (x : Sh) : Option Sh := if o = 2 then tkS (kdB P m a) x else if o = 33 then (if pN P 4 m = 0 then some x else tkS (decide (pN P 4 m = 2)) x) else if o = 32 then tkN P a (pN P 1 a) x else if o = 5 then (if x.1 = 0 then none else some x) else if o = 6 then (if x.1 < 2 then none else some x) else tkW 3 (takN o) x
def ptP (P : Pm) (m o a : Nat) (x : Sh) : Sh := if o = 1 then ptS (kdB P m a) x else if o = 5 then ptS (tpS x) x else if o = 6 then ptS (tpS (dpS x)) (ptS (tpS x) (dpS (dpS x))) else if o = 3 ∨ o = 28 then ptS true x else if o = 32 then (if pN P 4 a = 0 then x else ptS (decide (pN P 4 a = 2)) x) else if o = 0 ∨ o = 29 ∨ o = 30 ∨ o = 34 ∨ (7 ≤ o ∧ o ≤ 18) then ptS false x else x
theorem tkK_1 {x : Sh} : tkK 1 x = tkS false x := by
  unfold tkK tkS kS
  cases tpS x <;> simp
theorem tkK_2 {x : Sh} : tkK 2 x = tkS true x := by
  unfold tkK tkS kS
  cases tpS x <;> simp
theorem tkK_3 {x : Sh} : tkK 3 x = if x.1 = 0 then none else some (dpS x) := by
  unfold tkK kS
  simp
theorem ob_some {o : Option Sh} : o.bind some = o := by cases o <;> rfl
theorem tkW_0 {f : Nat} {x : Sh} : tkW f 0 x = some x := by
  cases f with
  | zero => rfl
  | succ f => rw [tkW, if_pos rfl]
theorem shS_tp {o a : Nat} {x : Sh} (ho : o ≤ 35) : shS P m o a x = (tkP P m o a x).map (ptP P m o a) := by
  have T : ∀ z, tkW 3 z x = if z = 0 then some x else (tkK (z % 4) x).bind (fun y => if z / 4 = 0 then some y else (tkK (z / 4 % 4) y).bind (fun y => if z / 4 / 4 = 0 then some y else (tkK (z / 4 / 4 % 4) y).bind some)) := fun z => rfl
  have hc : o = 0 ∨ o = 1 ∨ o = 2 ∨ o = 3 ∨ o = 4 ∨ o = 5 ∨ o = 6 ∨ (7 ≤ o ∧ o ≤ 17) ∨ o = 18 ∨ o = 19 ∨ (20 ≤ o ∧ o ≤ 25) ∨ (26 ≤ o ∧ o ≤ 27) ∨ o = 28 ∨ o = 29 ∨ o = 30 ∨ o = 31 ∨ o = 32 ∨ o = 33 ∨ o = 34 ∨ o = 35 := by omega
  rcases hc with rfl | rfl | rfl | rfl | rfl | rfl | rfl | h1 | rfl | rfl | h1 | h1 | rfl | rfl | rfl | rfl | rfl | rfl | rfl | rfl
  · show _ = (tkW 3 0 x).map _
    rw [tkW_0]; rfl
  · show _ = (tkW 3 0 x).map _
    rw [tkW_0]; rfl
  · show _ = (tkS _ x).map _
    have e : ∀ y, ptP P m 2 a y = y := fun y => rfl
    show tkS _ x = _
    cases tkS (kdB P m a) x <;> simp [e]
  · show _ = (tkW 3 0 x).map _
    rw [tkW_0]; rfl
  · show _ = (tkW 3 3 x).map _
    rw [T]
    simp only [Nat.reduceMod, Nat.reduceDiv, tkK_3, if_true]
    show (if x.1 = 0 then none else some (dpS x)) = _
    split <;> rfl
  · show (if x.1 = 0 then none else some (ptS (tpS x) x)) = (if x.1 = 0 then none else some x).map _
    split <;> rfl
  · show (if x.1 < 2 then none else some (ptS (tpS (dpS x)) (ptS (tpS x) (dpS (dpS x))))) = (if x.1 < 2 then none else some x).map _
    split <;> rfl
  · have e : takN o = 5 := by
      have : ∀ o, o < 18 → 7 ≤ o → takN o = 5 := by decide +kernel
      exact this o (by omega) h1.1
    have p : ∀ y, ptP P m o a y = ptS false y := fun y => by
      unfold ptP
      rw [if_neg (by omega), if_neg (by omega), if_neg (by omega), if_neg (by omega), if_neg (by omega), if_pos (by omega)]
    have t : tkP P m o a x = tkW 3 5 x := by
      unfold tkP
      rw [if_neg (by omega), if_neg (by omega), if_neg (by omega), if_neg (by omega), if_neg (by omega), e]
    rw [sh_ar h1.1 h1.2, t, T, funext p]
    simp only [Nat.reduceMod, Nat.reduceDiv, tkK_1, if_true]
    show ((tkS false x).bind (tkS false)).map _ = ((tkS false x).bind (fun y => (tkS false y).bind some)).map _
    congr 1
    cases tkS false x with
    | none => rfl
    | some y => show tkS false y = (tkS false y).bind some; simp
  · show (tkS false x).map (ptS false) = (tkW 3 1 x).map _
    rw [T]
    simp only [Nat.reduceMod, Nat.reduceDiv, tkK_1, if_true]
    show (tkS false x).map (ptS false) = ((tkS false x).bind some).map _
    simp only [ob_some]
    rfl
  · show some x = (tkW 3 0 x).map _
    rw [tkW_0]; rfl
  · have e : takN o = 5 := by
      have : ∀ o, o < 26 → 20 ≤ o → takN o = 5 := by decide +kernel
      exact this o (by omega) h1.1
    have p : ∀ y, ptP P m o a y = y := fun y => by
      unfold ptP
      rw [if_neg (by omega), if_neg (by omega), if_neg (by omega), if_neg (by omega), if_neg (by omega), if_neg (by omega)]
    have t : tkP P m o a x = tkW 3 5 x := by
      unfold tkP
      rw [if_neg (by omega), if_neg (by omega), if_neg (by omega), if_neg (by omega), if_neg (by omega), e]
    have s : shS P m o a x = (tkS false x).bind (tkS false) := by
      unfold shS
      rw [if_neg (by omega), if_neg (by omega), if_neg (by omega), if_neg (by omega), if_neg (by omega), if_neg (by omega), if_neg (by omega), if_neg (by omega), if_neg (by omega), if_neg (by omega), if_pos (by omega)]
    rw [s, t, T, funext p]
    simp only [Nat.reduceMod, Nat.reduceDiv, tkK_1, if_true]
    cases tkS false x with
    | none => rfl
    | some y => show tkS false y = ((tkS false y).bind some).map _; simp
  · have e : takN o = 2 := by
      have : ∀ o, o < 28 → 26 ≤ o → takN o = 2 := by decide +kernel
      exact this o (by omega) h1.1
    have p : ∀ y, ptP P m o a y = y := fun y => by
      unfold ptP
      rw [if_neg (by omega), if_neg (by omega), if_neg (by omega), if_neg (by omega), if_neg (by omega), if_neg (by omega)]
    have t : tkP P m o a x = tkW 3 2 x := by
      unfold tkP
      rw [if_neg (by omega), if_neg (by omega), if_neg (by omega), if_neg (by omega), if_neg (by omega), e]
    have s : shS P m o a x = tkS true x := by
      unfold shS
      rw [if_neg (by omega), if_neg (by omega), if_neg (by omega), if_neg (by omega), if_neg (by omega), if_neg (by omega), if_neg (by omega), if_neg (by omega), if_neg (by omega), if_neg (by omega), if_neg (by omega), if_pos (by omega)]
    rw [s, t, T, funext p]
    simp only [Nat.reduceMod, Nat.reduceDiv, tkK_2, if_true]
    show tkS true x = ((tkS true x).bind some).map _
    simp
  · show (tkS false x).map (ptS true) = (tkW 3 1 x).map _
    rw [T]
    simp only [Nat.reduceMod, Nat.reduceDiv, tkK_1, if_true]
    show (tkS false x).map (ptS true) = ((tkS false x).bind some).map _
    simp only [ob_some]
    rfl
  · show (tkS true x).map (ptS false) = (tkW 3 2 x).map _
    rw [T]
    simp only [Nat.reduceMod, Nat.reduceDiv, tkK_2, if_true]
    show (tkS true x).map (ptS false) = ((tkS true x).bind some).map _
    simp only [ob_some]
    rfl
  · show ((tkS false x).bind (tkS true)).map (ptS false) = (tkW 3 9 x).map _
    rw [T]
    simp only [Nat.reduceMod, Nat.reduceDiv, tkK_1, tkK_2, if_true]
    show ((tkS false x).bind (tkS true)).map (ptS false) = ((tkS false x).bind (fun y => (tkS true y).bind some)).map _
    simp only [ob_some]
    rfl
  · show ((tkS false x).bind (tkS false)).bind (tkS true) = (tkW 3 37 x).map _
    rw [T]
    simp only [Nat.reduceMod, Nat.reduceDiv, tkK_1, tkK_2, if_true]
    show ((tkS false x).bind (tkS false)).bind (tkS true) = ((tkS false x).bind (fun y => (tkS false y).bind (fun y => (tkS true y).bind some))).map _
    have e : ∀ y, ptP P m 31 a y = y := fun y => rfl
    simp only [ob_some, funext e, Option.map_id', Option.bind_assoc]
  · rfl
  · show (if pN P 4 m = 0 then some x else tkS (decide (pN P 4 m = 2)) x) = (if pN P 4 m = 0 then some x else tkS (decide (pN P 4 m = 2)) x).map _
    have e : ∀ y, ptP P m 33 a y = y := fun y => rfl
    simp only [funext e, Option.map_id']
  · show some _ = (tkW 3 0 x).map _
    rw [tkW_0]; rfl
  · show tkS false x = (tkW 3 1 x).map _
    rw [T]
    simp only [Nat.reduceMod, Nat.reduceDiv, tkK_1, if_true]
    have e : ∀ y, ptP P m 35 a y = y := fun y => rfl
    show tkS false x = ((tkS false x).bind some).map _
    simp only [ob_some, funext e, Option.map_id']
theorem z4 : ∀ z : Nat, z < 64 → nI z &&& 3 = nI (z % 4) ∧ nI z >>> (2 &&& 31) = nI (z / 4) := by decide +kernel
/-- a kind is taken -/
theorem c_Bu_tk (w : Nat) (x : Sh) (hw : 1 ≤ w ∧ w ≤ 3) (hx : isX S x) (P : buO bu pr h0 S F h) : gi_T l V y_Bu_takeKind b_Bu_takeKind 3 (some .boolean) 0 0 0 0 [.ref bu, .int (nI w)] n h (fun v n' h' => n' = n ∧ ((tkK w x = none ∧ v = some (.int 0) ∧ ∃ x', buO bu pr h0 (upX S x') F h') ∨ (∃ y, tkK w x = some y ∧ v = some (.int 1) ∧ buO bu pr h0 (upX S y) F h' ∧ isX (upX S y) y))) := by
  refine (c_Bu_takeKind w x hw hx P).mono (fun v n' h' hp => ?_)
  obtain ⟨rfl, hc⟩ := hp
  refine ⟨rfl, ?_⟩
  unfold tkK
  rcases hc with ⟨h1, rfl, rfl⟩ | ⟨h1, rfl, h3⟩
  · rw [if_pos h1]
    exact Or.inl ⟨rfl, rfl, x, by rw [hx.up]; exact P⟩
  · rw [if_neg h1]
    cases e : kS w x with
    | true =>
      rw [if_pos rfl]
      exact Or.inr ⟨_, rfl, rfl, h3, upX_is (by have := hx.2.2.1; show x.1 - 1 ≤ 12; omega) dpS_ok⟩
    | false =>
      rw [if_neg (by decide)]
      exact Or.inl ⟨rfl, rfl, _, h3⟩
theorem tkK_b {q : Bool} {x : Sh} : tkK (if q = true then 2 else 1) x = tkS q x := by
  cases q
  · exact tkK_1
  · exact tkK_2
/-- what is left to take, and how often at most -/
def okZ (f z : Nat) : Prop := z = 0 ∨ (1 ≤ f ∧ 1 ≤ z % 4 ∧ (z / 4 = 0 ∨ (2 ≤ f ∧ 1 ≤ z / 4 % 4 ∧ (z / 4 / 4 = 0 ∨ (3 ≤ f ∧ 1 ≤ z / 4 / 4 % 4 ∧ z / 4 / 4 / 4 = 0)))))
theorem okZ_of : ∀ o, o < 36 → ¬ o = 6 → okZ 3 (takN o) := by
  unfold okZ
  decide +kernel
set_option maxHeartbeats 4000000 in
set_option maxRecDepth 100000 in
theorem c_Bu_takeShape {a : Int32} (o aa : Nat) (x : Sh) (W : wfP k P) (hm : m < k) (ho : o ≤ 35) (hod : opdOk k P m o a) (haa : aa = a.toNatClampNeg) (HP : pr_at pr (nI k) P h) (dp : pr + 8 ≤ bu ∨ bu + 8 ≤ pr) (hx : isX S x) (Q : buO bu pr h0 S F h) : gi_T l V y_Bu_takeShape b_Bu_takeShape 6 (some .boolean) 2 43 0 0 [.ref bu, .int (nI m), .int (nI o), .int a] n h (fun v n' h' => n' = n ∧ ((tkP P m o aa x = none ∧ v = some (.int 0) ∧ ∃ x', buO bu pr h0 (upX S x') F h') ∨ (∃ y, tkP P m o aa x = some y ∧ v = some (.int 1) ∧ buO bu pr h0 (upX S y) F h' ∧ isX (upX S y) y))) := by
  refine gi_enter (by decide) (Nat.le_of_ble_eq_true rfl) ?_
  intro _ _ _ _ _ _ _ _ C hr hnm
  refine gi_iload_n (q := 1) (i := 2) C (dm_Bu_takeShape 0 rfl) rfl rfl rfl ?_
  refine gi_iconst (q := 2) (v := 2) C (dm_Bu_takeShape 1 rfl) rfl (by decide) ?_
  refine gi_icmp_ne (q := 5) (tgt := 27) C (dm_Bu_takeShape 2 rfl) rfl (by decide) (fun c2 => ?_) (fun c2 => ?_)
  · refine gi_iload_n (q := 28) (i := 2) C (dm_Bu_takeShape 15 rfl) rfl rfl rfl ?_
    refine gi_bipush (q := 30) (v := 33) C (dm_Bu_takeShape 16 rfl) rfl (by decide) ?_
    refine gi_icmp_ne (q := 33) (tgt := 65) C (dm_Bu_takeShape 17 rfl) rfl (by decide) (fun c30 => ?_) (fun c30 => ?_)
    · refine gi_iload_n (q := 66) (i := 2) C (dm_Bu_takeShape 34 rfl) rfl rfl rfl ?_
      refine gi_bipush (q := 68) (v := 32) C (dm_Bu_takeShape 35 rfl) rfl (by decide) ?_
      refine gi_icmp_ne (q := 71) (tgt := 123) C (dm_Bu_takeShape 36 rfl) rfl (by decide) (fun c68 => ?_) (fun c68 => ?_)
      · refine gi_iload_n (q := 124) (i := 2) C (dm_Bu_takeShape 64 rfl) rfl rfl rfl ?_
        refine gi_iconst (q := 125) (v := 5) C (dm_Bu_takeShape 65 rfl) rfl (by decide) ?_
        refine gi_icmp_eq (q := 128) (tgt := 134) C (dm_Bu_takeShape 66 rfl) rfl (by decide) (fun c125 => ?_) (fun c125 => ?_)
        · have o2 : ¬ o = 2 := (fun z : o = 2 => c2 (by rw [z]; rfl))
          have o33 : ¬ o = 33 := (fun z : o = 33 => c30 (by rw [z]; rfl))
          have o32 : ¬ o = 32 := (fun z : o = 32 => c68 (by rw [z]; rfl))
          have o5 : o = 5 := (nI_eq (b := 5) (by omega) (by omega)).mp c125
          have e5 : tkP P m o aa x = if x.1 = 0 then none else some x := by
            unfold tkP
            rw [if_neg o2, if_neg o33, if_neg o32, if_pos o5]
          refine gi_aload_n (q := 135) (i := 0) C (dm_Bu_takeShape 70 rfl) rfl rfl rfl ?_
          refine gi_get (q := 138) C (dm_Bu_takeShape 71 rfl) rfl fl_Bu_103 Q.ob rfl ?_
          refine gi_iload_n (q := 139) (i := 2) C (dm_Bu_takeShape 72 rfl) rfl rfl rfl ?_
          refine gi_iconst (q := 140) (v := 5) C (dm_Bu_takeShape 73 rfl) rfl (by decide) ?_
          refine gi_icmp_ne (q := 143) (tgt := 147) C (dm_Bu_takeShape 74 rfl) rfl (by decide) (fun c140 => ?_) (fun c140 => ?_)
          · exact absurd o5 (fun z => c140 (by rw [z]; rfl))
          · refine gi_iconst (q := 144) (v := 1) C (dm_Bu_takeShape 75 rfl) rfl (by decide) ?_
            refine gi_goto (tgt := 148) C (dm_Bu_takeShape 76 rfl) (by decide) ?_
            rw [hx.1]
            refine gi_icmp_lt (q := 151) (tgt := 155) C (dm_Bu_takeShape 78 rfl) rfl (by decide) (fun c148 => ?_) (fun c148 => ?_)
            · have d0 : x.1 < 1 := (nI_ltI (b := 1) (by have := hx.2.2.1; omega) (by omega)).mp c148
              refine gi_iconst (q := 156) (v := 0) C (dm_Bu_takeShape 81 rfl) rfl (by decide) ?_
              refine gi_zret C hr (dm_Bu_takeShape 82 rfl) rfl ?_
              first
                | exact ⟨rfl, Or.inr ⟨x, e5.trans (if_neg (by omega)), rfl, by rw [hx.up]; exact Q, by rw [hx.up]; exact hx⟩⟩
                | exact ⟨rfl, Or.inl ⟨e5.trans (if_pos (by omega)), rfl, x, by rw [hx.up]; exact Q⟩⟩
            · have d0 : 1 ≤ x.1 := (nI_leI (a := 1) (by omega) (by have := hx.2.2.1; omega)).mp (Int32.not_lt.mp c148)
              refine gi_iconst (q := 152) (v := 1) C (dm_Bu_takeShape 79 rfl) rfl (by decide) ?_
              refine gi_goto (tgt := 156) C (dm_Bu_takeShape 80 rfl) (by decide) ?_
              refine gi_zret C hr (dm_Bu_takeShape 82 rfl) rfl ?_
              first
                | exact ⟨rfl, Or.inr ⟨x, e5.trans (if_neg (by omega)), rfl, by rw [hx.up]; exact Q, by rw [hx.up]; exact hx⟩⟩
                | exact ⟨rfl, Or.inl ⟨e5.trans (if_pos (by omega)), rfl, x, by rw [hx.up]; exact Q⟩⟩
        · refine gi_iload_n (q := 129) (i := 2) C (dm_Bu_takeShape 67 rfl) rfl rfl rfl ?_
          refine gi_bipush (q := 131) (v := 6) C (dm_Bu_takeShape 68 rfl) rfl (by decide) ?_
          refine gi_icmp_ne (q := 134) (tgt := 157) C (dm_Bu_takeShape 69 rfl) rfl (by decide) (fun c131 => ?_) (fun c131 => ?_)
          · have o2 : ¬ o = 2 := (fun z : o = 2 => c2 (by rw [z]; rfl))
            have o33 : ¬ o = 33 := (fun z : o = 33 => c30 (by rw [z]; rfl))
            have o32 : ¬ o = 32 := (fun z : o = 32 => c68 (by rw [z]; rfl))
            have o5 : ¬ o = 5 := (fun z : o = 5 => c125 (by rw [z]; rfl))
            have o6 : ¬ o = 6 := (fun z : o = 6 => c131 (by rw [z]; rfl))
            have eT : tkP P m o aa x = tkW 3 (takN o) x := by
              unfold tkP
              rw [if_neg o2, if_neg o33, if_neg o32, if_neg o5, if_neg o6]
            have tv := takN_v o (by omega)
            obtain ⟨tT, tL, hZT, hTT, hZL, hLL⟩ := C.K.2.2.1
            refine gi_iload_n (q := 158) (i := 2) C (dm_Bu_takeShape 83 rfl) rfl rfl rfl ?_
            refine gi_if_lt (q := 161) (tgt := 177) C (dm_Bu_takeShape 84 rfl) rfl (by decide) (fun c158 => ?_) (fun c158 => ?_)
            · exact absurd c158 (Int32.not_lt.mpr (nI_nn (by omega)))
            · refine gi_iload_n (q := 162) (i := 2) C (dm_Bu_takeShape 85 rfl) rfl rfl rfl ?_
              refine gi_getsN (q := 165) C (dm_Bu_takeShape 86 rfl) rfl (List.mem_of_getElem? (i := 9) rfl) hZT ?_
              refine gi_tlen (q := 166) (v := 36) C hTT (dm_Bu_takeShape 87 rfl) rfl rfl ?_
              refine gi_icmp_ge (q := 169) (tgt := 177) C (dm_Bu_takeShape 88 rfl) rfl (by decide) (fun c166 => ?_) (fun c166 => ?_)
              · exact absurd c166 (Int32.not_le.mpr (show nI o < nI 36 from nI_lt (by omega) (by omega)))
              · refine gi_getsN (q := 172) C (dm_Bu_takeShape 89 rfl) rfl (List.mem_of_getElem? (i := 9) rfl) hZT ?_
                refine gi_iload_n (q := 173) (i := 2) C (dm_Bu_takeShape 90 rfl) rfl rfl rfl ?_
                refine gi_ti (q := 174) (v := .int (nI (takN o))) C hTT (dm_Bu_takeShape 91 rfl) rfl (vp_in_nI (by omega) (by omega)) (by rw [nI_clamp (by omega), gi_tk, tv.1]) ?_
                refine gi_goto (tgt := 178) C (dm_Bu_takeShape 92 rfl) (by decide) ?_
                refine gi_istore (q := 180) C (dm_Bu_takeShape 94 rfl) rfl (Nat.le_of_ble_eq_true rfl) ?_
                refine gi_iload (q := 182) C (dm_Bu_takeShape 95 rfl) rfl rfl ?_
                refine gi_istore (q := 184) C (dm_Bu_takeShape 96 rfl) rfl (Nat.le_of_ble_eq_true rfl) ?_
                have hO2 : okZ 3 (takN o) := okZ_of o (by omega) o6
                refine gi_while (σ := Nat × Nat × Sh) (fun q => q.2.1) (fun q => [(5, .int (nI q.2.1)), (0, .ref bu)]) (fun _ => n) (fun _ => 0) (fun _ => 0) (fun q y => q.2.1 < 64 ∧ okZ q.1 q.2.1 ∧ buO bu pr h0 (upX S q.2.2) F y ∧ isX (upX S q.2.2) q.2.2 ∧ tkW 3 (takN o) x = tkW q.1 q.2.1 q.2.2) (3, takN o, x) ⟨tv.2, hO2, by rw [hx.up]; exact Q, by rw [hx.up]; exact hx, rfl⟩ ?_ (List.forall_mem_cons.mpr ⟨rfl, List.forall_mem_cons.mpr ⟨rfl, fun _ h => absurd h List.not_mem_nil⟩⟩) rfl rfl rfl
                rintro ⟨fj, zj, xj⟩ y' ⟨hz, hO, QJ, XJ, hT⟩ ih
                try dsimp only at *
                refine gi_iload (q := 186) C (dm_Bu_takeShape 97 rfl) rfl rfl ?_
                refine gi_if_le (q := 189) (tgt := 211) C (dm_Bu_takeShape 98 rfl) rfl (by decide) (fun c186 => ?_) (fun c186 => ?_)
                · refine gi_iconst (q := 212) (v := 1) C (dm_Bu_takeShape 112 rfl) rfl (by decide) ?_
                  refine gi_zret C hr (dm_Bu_takeShape 113 rfl) rfl ?_
                  have z0 : zj = 0 := by
                    rcases Nat.eq_zero_or_pos zj with z | z
                    · exact z
                    · exact absurd ((nI_ps0 (by omega)).mpr z) (Int32.not_lt.mpr c186)
                  subst z0
                  rw [tkW_0] at hT
                  exact ⟨rfl, Or.inr ⟨xj, eT.trans hT, rfl, QJ, XJ⟩⟩
                · have zp : 0 < zj := (nI_ps0 (by omega)).mp (Int32.not_le.mp c186)
                  have hO' := hO
                  unfold okZ at hO'
                  have z4a : 1 ≤ zj % 4 := by omega
                  have fj1 : 1 ≤ fj := by omega
                  have z0 : ¬ zj = 0 := by omega
                  refine gi_aload_n (q := 190) (i := 0) C (dm_Bu_takeShape 99 rfl) rfl rfl rfl ?_
                  refine gi_iload (q := 192) C (dm_Bu_takeShape 100 rfl) rfl rfl ?_
                  refine gi_iconst (q := 193) (v := 3) C (dm_Bu_takeShape 101 rfl) rfl (by decide) ?_
                  refine gi_iand (q := 194) C (dm_Bu_takeShape 102 rfl) rfl ?_
                  rw [(z4 zj hz).1]
                  refine gi_callv 1 (q := 197) C (dm_Bu_takeShape 103 rfl) rfl my_Bu_takeKind lk_Bu_121 im_Bu_takeKind rfl (c_Bu_tk (zj % 4) xj (by omega) XJ QJ) QJ.ob rfl rfl ⟨(Nat.le_of_ble_eq_true rfl), (Nat.le_of_ble_eq_true rfl)⟩ (Nat.le_of_ble_eq_true rfl) ⟨(Nat.le_of_ble_eq_true rfl), (Nat.le_of_ble_eq_true rfl)⟩ (fun r194 n194 h194 e194 => ?_)
                  obtain ⟨rfl, hc194⟩ := e194
                  rcases hc194 with ⟨t1, rfl, x9, Q9⟩ | ⟨y9, t1, rfl, Q9, X9⟩
                  · have t2 : tkW fj zj xj = none := by
                      obtain ⟨g, rfl⟩ : ∃ g, fj = g + 1 := ⟨fj - 1, by omega⟩
                      rw [tkW, if_neg z0, t1]
                      rfl
                    refine gi_if_ne (q := 200) (tgt := 202) C (dm_Bu_takeShape 104 rfl) rfl (by decide) (fun c197 => ?_) (fun c197 => ?_)
                    · exact absurd rfl c197
                    · refine gi_iconst (q := 201) (v := 0) C (dm_Bu_takeShape 105 rfl) rfl (by decide) ?_
                      refine gi_zret C hr (dm_Bu_takeShape 106 rfl) rfl ?_
                      rw [upX_X] at Q9
                      exact ⟨rfl, Or.inl ⟨eT.trans (hT.trans t2), rfl, _, Q9⟩⟩
                  · have t2 : tkW fj zj xj = tkW (fj - 1) (zj / 4) y9 := by
                      obtain ⟨g, rfl⟩ : ∃ g, fj = g + 1 := ⟨fj - 1, by omega⟩
                      rw [tkW, if_neg z0, t1]
                      rfl
                    refine gi_if_ne (q := 200) (tgt := 202) C (dm_Bu_takeShape 104 rfl) rfl (by decide) (fun c197 => ?_) (fun c197 => ?_)
                    · refine gi_iload (q := 204) C (dm_Bu_takeShape 107 rfl) rfl rfl ?_
                      refine gi_iconst (q := 205) (v := 2) C (dm_Bu_takeShape 108 rfl) rfl (by decide) ?_
                      refine gi_ishr (q := 206) C (dm_Bu_takeShape 109 rfl) rfl ?_
                      rw [(z4 zj hz).2]
                      refine gi_istore (q := 208) C (dm_Bu_takeShape 110 rfl) rfl (Nat.le_of_ble_eq_true rfl) ?_
                      refine gi_goto (tgt := 184) C (dm_Bu_takeShape 111 rfl) (by decide) ?_
                      rw [upX_X] at Q9 X9
                      refine gi_close (ih (fj - 1, zj / 4, y9) _ ⟨by dsimp only; omega, by unfold okZ; dsimp only; omega, Q9, X9, hT.trans t2⟩ (by dsimp only; omega)) (List.forall_mem_cons.mpr ⟨rfl, List.forall_mem_cons.mpr ⟨rfl, fun _ h => absurd h List.not_mem_nil⟩⟩) rfl rfl rfl
                    · exact absurd c197 (by decide)
          · have o2 : ¬ o = 2 := (fun z : o = 2 => c2 (by rw [z]; rfl))
            have o33 : ¬ o = 33 := (fun z : o = 33 => c30 (by rw [z]; rfl))
            have o32 : ¬ o = 32 := (fun z : o = 32 => c68 (by rw [z]; rfl))
            have o5 : ¬ o = 5 := (fun z : o = 5 => c125 (by rw [z]; rfl))
            have o6 : o = 6 := (nI_eq (b := 6) (by omega) (by omega)).mp c131
            have e5 : tkP P m o aa x = if x.1 < 2 then none else some x := by
              unfold tkP
              rw [if_neg o2, if_neg o33, if_neg o32, if_neg o5, if_pos o6]
            refine gi_aload_n (q := 135) (i := 0) C (dm_Bu_takeShape 70 rfl) rfl rfl rfl ?_
            refine gi_get (q := 138) C (dm_Bu_takeShape 71 rfl) rfl fl_Bu_103 Q.ob rfl ?_
            refine gi_iload_n (q := 139) (i := 2) C (dm_Bu_takeShape 72 rfl) rfl rfl rfl ?_
            refine gi_iconst (q := 140) (v := 5) C (dm_Bu_takeShape 73 rfl) rfl (by decide) ?_
            refine gi_icmp_ne (q := 143) (tgt := 147) C (dm_Bu_takeShape 74 rfl) rfl (by decide) (fun c140 => ?_) (fun c140 => ?_)
            · refine gi_iconst (q := 148) (v := 2) C (dm_Bu_takeShape 77 rfl) rfl (by decide) ?_
              rw [hx.1]
              refine gi_icmp_lt (q := 151) (tgt := 155) C (dm_Bu_takeShape 78 rfl) rfl (by decide) (fun c148 => ?_) (fun c148 => ?_)
              · have d0 : x.1 < 2 := (nI_ltI (b := 2) (by have := hx.2.2.1; omega) (by omega)).mp c148
                refine gi_iconst (q := 156) (v := 0) C (dm_Bu_takeShape 81 rfl) rfl (by decide) ?_
                refine gi_zret C hr (dm_Bu_takeShape 82 rfl) rfl ?_
                first
                  | exact ⟨rfl, Or.inr ⟨x, e5.trans (if_neg (by omega)), rfl, by rw [hx.up]; exact Q, by rw [hx.up]; exact hx⟩⟩
                  | exact ⟨rfl, Or.inl ⟨e5.trans (if_pos (by omega)), rfl, x, by rw [hx.up]; exact Q⟩⟩
              · have d0 : 2 ≤ x.1 := (nI_leI (a := 2) (by omega) (by have := hx.2.2.1; omega)).mp (Int32.not_lt.mp c148)
                refine gi_iconst (q := 152) (v := 1) C (dm_Bu_takeShape 79 rfl) rfl (by decide) ?_
                refine gi_goto (tgt := 156) C (dm_Bu_takeShape 80 rfl) (by decide) ?_
                refine gi_zret C hr (dm_Bu_takeShape 82 rfl) rfl ?_
                first
                  | exact ⟨rfl, Or.inr ⟨x, e5.trans (if_neg (by omega)), rfl, by rw [hx.up]; exact Q, by rw [hx.up]; exact hx⟩⟩
                  | exact ⟨rfl, Or.inl ⟨e5.trans (if_pos (by omega)), rfl, x, by rw [hx.up]; exact Q⟩⟩
            · exact absurd ((nI_eq (b := 5) (by omega) (by omega)).mp c140) o5
      · have o2 : ¬ o = 2 := (fun z : o = 2 => c2 (by rw [z]; rfl))
        have o33 : ¬ o = 33 := (fun z : o = 33 => c30 (by rw [z]; rfl))
        have o32 : o = 32 := (nI_eq (b := 32) (by omega) (by omega)).mp c68
        have e32 : tkP P m o aa x = tkN P aa (pN P 1 aa) x := by
          unfold tkP
          rw [if_neg o2, if_neg o33, if_pos o32]
        have od := hod.2.2.1 o32
        have av := nn_nI (od).1
        rw [← haa] at av
        rw [av.1]
        have ha : aa < k := by omega
        have wa := wf_ar W ha
        refine gi_aload_n (q := 72) (i := 0) C (dm_Bu_takeShape 37 rfl) rfl rfl rfl ?_
        refine gi_get (q := 75) C (dm_Bu_takeShape 38 rfl) rfl fl_Bu_34 Q.ob rfl ?_
        refine gi_iload_n (q := 76) (i := 3) C (dm_Bu_takeShape 39 rfl) rfl rfl rfl ?_
        refine gi_callv 1 (q := 79) C (dm_Bu_takeShape 40 rfl) rfl my_Pr_argumentsOf lk_Bu_128 im_Pr_argumentsOf rfl (q_args W ha HP) HP.1 rfl rfl ⟨(Nat.le_of_ble_eq_true rfl), (Nat.le_of_ble_eq_true rfl)⟩ (Nat.le_of_ble_eq_true rfl) ⟨(Nat.le_of_ble_eq_true rfl), (Nat.le_of_ble_eq_true rfl)⟩ (fun r76 n76 h76 e76 => ?_)
        obtain ⟨rfl, q76, u76⟩ := e76
        rw [q76, u76]
        refine gi_iconst (q := 80) (v := 1) C (dm_Bu_takeShape 41 rfl) rfl (by decide) ?_
        refine gi_isub (q := 81) C (dm_Bu_takeShape 42 rfl) rfl ?_
        refine gi_istore (q := 83) C (dm_Bu_takeShape 43 rfl) rfl (Nat.le_of_ble_eq_true rfl) ?_
        refine gi_while (σ := Nat × Sh) (fun q => q.1) (fun q => [(4, .int (nI q.1 - 1)), (0, .ref bu), (1, .int (nI m)), (2, .int (nI o)), (3, .int (nI aa))]) (fun _ => n) (fun _ => 0) (fun _ => 0) (fun q y => q.1 ≤ pN P 1 aa ∧ buO bu pr h0 (upX S q.2) F y ∧ isX (upX S q.2) q.2 ∧ tkN P aa (pN P 1 aa) x = tkN P aa q.1 q.2) (pN P 1 aa, x) ⟨Nat.le_refl _, by rw [hx.up]; exact Q, by rw [hx.up]; exact hx, rfl⟩ ?_ (List.forall_mem_cons.mpr ⟨rfl, List.forall_mem_cons.mpr ⟨rfl, List.forall_mem_cons.mpr ⟨rfl, List.forall_mem_cons.mpr ⟨rfl, List.forall_mem_cons.mpr ⟨rfl, fun _ h => absurd h List.not_mem_nil⟩⟩⟩⟩⟩) rfl rfl rfl
        rintro ⟨jj, xj⟩ y' ⟨hj, QJ, XJ, hT⟩ ih
        try dsimp only at *
        refine gi_iload (q := 85) C (dm_Bu_takeShape 44 rfl) rfl rfl ?_
        refine gi_if_lt (q := 88) (tgt := 121) C (dm_Bu_takeShape 45 rfl) rfl (by decide) (fun c85 => ?_) (fun c85 => ?_)
        · refine gi_iconst (q := 122) (v := 1) C (dm_Bu_takeShape 62 rfl) rfl (by decide) ?_
          refine gi_zret C hr (dm_Bu_takeShape 63 rfl) rfl ?_
          have j0 : jj = 0 := by
            rcases Nat.eq_zero_or_pos jj with z | z
            · exact z
            · rw [nI_m1 z] at c85
              exact absurd c85 (Int32.not_lt.mpr (nI_nn (by omega)))
          subst j0
          exact ⟨rfl, Or.inr ⟨xj, e32.trans hT, rfl, QJ, XJ⟩⟩
        · obtain ⟨j, rfl⟩ : ∃ j, jj = j + 1 := ⟨jj - 1, by
            rcases Nat.eq_zero_or_pos jj with z | z
            · subst z; exact absurd (by decide) c85
            · omega⟩
          rw [nI_s1]
          have HPJ := HP.keep2 (h' := y') (fun b b1 b2 => by rw [QJ.2 b (by omega), Q.2 b (by omega)])
          refine gi_aload_n (q := 89) (i := 0) C (dm_Bu_takeShape 46 rfl) rfl rfl rfl ?_
          refine gi_aload_n (q := 90) (i := 0) C (dm_Bu_takeShape 47 rfl) rfl rfl rfl ?_
          refine gi_get (q := 93) C (dm_Bu_takeShape 48 rfl) rfl fl_Bu_34 QJ.ob rfl ?_
          refine gi_iload_n (q := 94) (i := 3) C (dm_Bu_takeShape 49 rfl) rfl rfl rfl ?_
          refine gi_iload (q := 96) C (dm_Bu_takeShape 50 rfl) rfl rfl ?_
          refine gi_callv 2 (q := 99) C (dm_Bu_takeShape 51 rfl) rfl my_Pr_holdsArray lk_Bu_118 im_Pr_holdsArray rfl (q_holds W ha (show j < 8 by omega) HPJ) HPJ.1 rfl rfl ⟨(Nat.le_of_ble_eq_true rfl), (Nat.le_of_ble_eq_true rfl)⟩ (Nat.le_of_ble_eq_true rfl) ⟨(Nat.le_of_ble_eq_true rfl), (Nat.le_of_ble_eq_true rfl)⟩ (fun r96 n96 h96 e96 => ?_)
          obtain ⟨rfl, q96, u96⟩ := e96
          rw [q96, u96]
          refine gi_if_eq (q := 102) (tgt := 106) C (dm_Bu_takeShape 52 rfl) rfl (by decide) (fun c99 => ?_) (fun c99 => ?_)
          · refine gi_iconst (q := 107) (v := 1) C (dm_Bu_takeShape 55 rfl) rfl (by decide) ?_
            refine gi_callv 1 (q := 110) C (dm_Bu_takeShape 56 rfl) rfl my_Bu_takeKind lk_Bu_121 im_Bu_takeKind rfl (c_Bu_tk 1 xj (by omega) XJ QJ) QJ.ob rfl rfl ⟨(Nat.le_of_ble_eq_true rfl), (Nat.le_of_ble_eq_true rfl)⟩ (Nat.le_of_ble_eq_true rfl) ⟨(Nat.le_of_ble_eq_true rfl), (Nat.le_of_ble_eq_true rfl)⟩ (fun r107 n107 h107 e107 => ?_)
            obtain ⟨rfl, hc107⟩ := e107
            rcases hc107 with ⟨t1, rfl, x9, Q9⟩ | ⟨y9, t1, rfl, Q9, X9⟩
            · have t2 : tkN P aa (j + 1) xj = none := by
                show (tkS (kdB P aa j) xj).bind _ = none
                rw [bI_fa c99, ← tkK_1, t1]
                rfl
              refine gi_if_ne (q := 113) (tgt := 115) C (dm_Bu_takeShape 57 rfl) rfl (by decide) (fun c110 => ?_) (fun c110 => ?_)
              · exact absurd rfl c110
              · refine gi_iconst (q := 114) (v := 0) C (dm_Bu_takeShape 58 rfl) rfl (by decide) ?_
                refine gi_zret C hr (dm_Bu_takeShape 59 rfl) rfl ?_
                rw [upX_X] at Q9
                exact ⟨rfl, Or.inl ⟨e32.trans (hT.trans t2), rfl, _, Q9⟩⟩
            · have t2 : tkN P aa (j + 1) xj = tkN P aa j y9 := by
                show (tkS (kdB P aa j) xj).bind _ = _
                rw [bI_fa c99, ← tkK_1, t1]
                rfl
              refine gi_if_ne (q := 113) (tgt := 115) C (dm_Bu_takeShape 57 rfl) rfl (by decide) (fun c110 => ?_) (fun c110 => ?_)
              · refine gi_iinc (q := 118) (v := -1) C (dm_Bu_takeShape 60 rfl) rfl rfl (by decide) (Nat.le_of_ble_eq_true rfl) ?_
                refine gi_goto (tgt := 83) C (dm_Bu_takeShape 61 rfl) (by decide) ?_
                rw [upX_X] at Q9 X9
                refine gi_close (ih (j, y9) _ ⟨by dsimp only; omega, Q9, X9, hT.trans t2⟩ (by dsimp only; omega)) (List.forall_mem_cons.mpr ⟨(congrArg (fun x => some (Value.int x)) (nI_neg1 j).symm), List.forall_mem_cons.mpr ⟨rfl, List.forall_mem_cons.mpr ⟨rfl, List.forall_mem_cons.mpr ⟨rfl, List.forall_mem_cons.mpr ⟨rfl, fun _ h => absurd h List.not_mem_nil⟩⟩⟩⟩⟩) rfl rfl rfl
              · exact absurd c110 (by decide)
          · refine gi_iconst (q := 103) (v := 2) C (dm_Bu_takeShape 53 rfl) rfl (by decide) ?_
            refine gi_goto (tgt := 107) C (dm_Bu_takeShape 54 rfl) (by decide) ?_
            refine gi_callv 1 (q := 110) C (dm_Bu_takeShape 56 rfl) rfl my_Bu_takeKind lk_Bu_121 im_Bu_takeKind rfl (c_Bu_tk 2 xj (by omega) XJ QJ) QJ.ob rfl rfl ⟨(Nat.le_of_ble_eq_true rfl), (Nat.le_of_ble_eq_true rfl)⟩ (Nat.le_of_ble_eq_true rfl) ⟨(Nat.le_of_ble_eq_true rfl), (Nat.le_of_ble_eq_true rfl)⟩ (fun r107 n107 h107 e107 => ?_)
            obtain ⟨rfl, hc107⟩ := e107
            rcases hc107 with ⟨t1, rfl, x9, Q9⟩ | ⟨y9, t1, rfl, Q9, X9⟩
            · have t2 : tkN P aa (j + 1) xj = none := by
                show (tkS (kdB P aa j) xj).bind _ = none
                rw [bI_t c99, ← tkK_2, t1]
                rfl
              refine gi_if_ne (q := 113) (tgt := 115) C (dm_Bu_takeShape 57 rfl) rfl (by decide) (fun c110 => ?_) (fun c110 => ?_)
              · exact absurd rfl c110
              · refine gi_iconst (q := 114) (v := 0) C (dm_Bu_takeShape 58 rfl) rfl (by decide) ?_
                refine gi_zret C hr (dm_Bu_takeShape 59 rfl) rfl ?_
                rw [upX_X] at Q9
                exact ⟨rfl, Or.inl ⟨e32.trans (hT.trans t2), rfl, _, Q9⟩⟩
            · have t2 : tkN P aa (j + 1) xj = tkN P aa j y9 := by
                show (tkS (kdB P aa j) xj).bind _ = _
                rw [bI_t c99, ← tkK_2, t1]
                rfl
              refine gi_if_ne (q := 113) (tgt := 115) C (dm_Bu_takeShape 57 rfl) rfl (by decide) (fun c110 => ?_) (fun c110 => ?_)
              · refine gi_iinc (q := 118) (v := -1) C (dm_Bu_takeShape 60 rfl) rfl rfl (by decide) (Nat.le_of_ble_eq_true rfl) ?_
                refine gi_goto (tgt := 83) C (dm_Bu_takeShape 61 rfl) (by decide) ?_
                rw [upX_X] at Q9 X9
                refine gi_close (ih (j, y9) _ ⟨by dsimp only; omega, Q9, X9, hT.trans t2⟩ (by dsimp only; omega)) (List.forall_mem_cons.mpr ⟨(congrArg (fun x => some (Value.int x)) (nI_neg1 j).symm), List.forall_mem_cons.mpr ⟨rfl, List.forall_mem_cons.mpr ⟨rfl, List.forall_mem_cons.mpr ⟨rfl, List.forall_mem_cons.mpr ⟨rfl, fun _ h => absurd h List.not_mem_nil⟩⟩⟩⟩⟩) rfl rfl rfl
              · exact absurd c110 (by decide)
    · have o2 : ¬ o = 2 := (fun z : o = 2 => c2 (by rw [z]; rfl))
      have o33 : o = 33 := (nI_eq (b := 33) (by omega) (by omega)).mp c30
      have e33 : tkP P m o aa x = if pN P 4 m = 0 then some x else tkS (decide (pN P 4 m = 2)) x := by
        unfold tkP
        rw [if_neg o2, if_pos o33]
      refine gi_aload_n (q := 34) (i := 0) C (dm_Bu_takeShape 18 rfl) rfl rfl rfl ?_
      refine gi_get (q := 37) C (dm_Bu_takeShape 19 rfl) rfl fl_Bu_34 Q.ob rfl ?_
      refine gi_iload_n (q := 38) (i := 1) C (dm_Bu_takeShape 20 rfl) rfl rfl rfl ?_
      refine gi_callv 1 (q := 41) C (dm_Bu_takeShape 21 rfl) rfl my_Pr_resultSort lk_Bu_125 im_Pr_resultSort rfl (q_res W hm HP) HP.1 rfl rfl ⟨(Nat.le_of_ble_eq_true rfl), (Nat.le_of_ble_eq_true rfl)⟩ (Nat.le_of_ble_eq_true rfl) ⟨(Nat.le_of_ble_eq_true rfl), (Nat.le_of_ble_eq_true rfl)⟩ (fun r38 n38 h38 e38 => ?_)
      obtain ⟨rfl, q38, u38⟩ := e38
      rw [q38, u38]
      refine gi_if_eq (q := 44) (tgt := 59) C (dm_Bu_takeShape 22 rfl) rfl (by decide) (fun c41 => ?_) (fun c41 => ?_)
      · refine gi_iconst (q := 60) (v := 1) C (dm_Bu_takeShape 30 rfl) rfl (by decide) ?_
        refine gi_goto (tgt := 64) C (dm_Bu_takeShape 31 rfl) (by decide) ?_
        refine gi_zret C hr (dm_Bu_takeShape 33 rfl) rfl ?_
        have r0 : pN P 4 m = 0 := (nI_eq (b := 0) (by have := wf_ar W hm; omega) (by omega)).mp c41
        rw [if_pos r0] at e33
        exact ⟨rfl, Or.inr ⟨x, e33, rfl, by rw [hx.up]; exact Q, by rw [hx.up]; exact hx⟩⟩
      · have r0 : ¬ pN P 4 m = 0 := fun z => c41 (by rw [z]; rfl)
        rw [if_neg r0] at e33
        refine gi_aload_n (q := 45) (i := 0) C (dm_Bu_takeShape 23 rfl) rfl rfl rfl ?_
        refine gi_aload_n (q := 46) (i := 0) C (dm_Bu_takeShape 24 rfl) rfl rfl rfl ?_
        refine gi_get (q := 49) C (dm_Bu_takeShape 25 rfl) rfl fl_Bu_34 Q.ob rfl ?_
        refine gi_iload_n (q := 50) (i := 1) C (dm_Bu_takeShape 26 rfl) rfl rfl rfl ?_
        refine gi_callv 1 (q := 53) C (dm_Bu_takeShape 27 rfl) rfl my_Pr_resultSort lk_Bu_125 im_Pr_resultSort rfl (q_res W hm HP) HP.1 rfl rfl ⟨(Nat.le_of_ble_eq_true rfl), (Nat.le_of_ble_eq_true rfl)⟩ (Nat.le_of_ble_eq_true rfl) ⟨(Nat.le_of_ble_eq_true rfl), (Nat.le_of_ble_eq_true rfl)⟩ (fun r50 n50 h50 e50 => ?_)
        obtain ⟨rfl, q50, u50⟩ := e50
        rw [q50, u50]
        refine gi_callv 1 (q := 56) C (dm_Bu_takeShape 28 rfl) rfl my_Bu_takeKind lk_Bu_121 im_Bu_takeKind rfl (c_Bu_tk (pN P 4 m) x (by have := wf_ar W hm; omega) hx Q) Q.ob rfl rfl ⟨(Nat.le_of_ble_eq_true rfl), (Nat.le_of_ble_eq_true rfl)⟩ (Nat.le_of_ble_eq_true rfl) ⟨(Nat.le_of_ble_eq_true rfl), (Nat.le_of_ble_eq_true rfl)⟩ (fun r53 n53 h53 e53 => ?_)
        obtain ⟨rfl, hc53⟩ := e53
        have et : tkK (pN P 4 m) x = tkS (decide (pN P 4 m = 2)) x := by
          rcases (show pN P 4 m = 1 ∨ pN P 4 m = 2 by have := wf_ar W hm; omega) with z | z
          · rw [z]; exact tkK_1
          · rw [z]; exact tkK_2
        rcases hc53 with ⟨t1, rfl, x9, Q9⟩ | ⟨y9, t1, rfl, Q9, X9⟩
        · refine gi_if_eq (q := 59) (tgt := 63) C (dm_Bu_takeShape 29 rfl) rfl (by decide) (fun c56 => ?_) (fun c56 => ?_)
          · refine gi_iconst (q := 64) (v := 0) C (dm_Bu_takeShape 32 rfl) rfl (by decide) ?_
            refine gi_zret C hr (dm_Bu_takeShape 33 rfl) rfl ?_
            exact ⟨rfl, Or.inl ⟨e33.trans (et.symm.trans t1), rfl, _, Q9⟩⟩
          · exact absurd rfl c56
        · refine gi_if_eq (q := 59) (tgt := 63) C (dm_Bu_takeShape 29 rfl) rfl (by decide) (fun c56 => ?_) (fun c56 => ?_)
          · exact absurd c56 (by decide)
          · refine gi_iconst (q := 60) (v := 1) C (dm_Bu_takeShape 30 rfl) rfl (by decide) ?_
            refine gi_goto (tgt := 64) C (dm_Bu_takeShape 31 rfl) (by decide) ?_
            refine gi_zret C hr (dm_Bu_takeShape 33 rfl) rfl ?_
            exact ⟨rfl, Or.inr ⟨_, e33.trans (et.symm.trans t1), rfl, Q9, X9⟩⟩
  · have o2 : o = 2 := (nI_eq (b := 2) (by omega) (by omega)).mp c2
    have e2 : tkP P m o aa x = tkS (kdB P m aa) x := by
      unfold tkP
      rw [if_pos o2]
    have od := hod.1 (Or.inr o2)
    have av := nn_nI (od).1
    rw [← haa] at av
    rw [av.1]
    have a6 : aa < 8 := by have := wf_ar W hm; omega
    refine gi_aload_n (q := 6) (i := 0) C (dm_Bu_takeShape 3 rfl) rfl rfl rfl ?_
    refine gi_aload_n (q := 7) (i := 0) C (dm_Bu_takeShape 4 rfl) rfl rfl rfl ?_
    refine gi_get (q := 10) C (dm_Bu_takeShape 5 rfl) rfl fl_Bu_34 Q.ob rfl ?_
    refine gi_iload_n (q := 11) (i := 1) C (dm_Bu_takeShape 6 rfl) rfl rfl rfl ?_
    refine gi_iload_n (q := 12) (i := 3) C (dm_Bu_takeShape 7 rfl) rfl rfl rfl ?_
    refine gi_callv 2 (q := 15) C (dm_Bu_takeShape 8 rfl) rfl my_Pr_holdsArray lk_Bu_118 im_Pr_holdsArray rfl (q_holds W hm a6 HP) HP.1 rfl rfl ⟨(Nat.le_of_ble_eq_true rfl), (Nat.le_of_ble_eq_true rfl)⟩ (Nat.le_of_ble_eq_true rfl) ⟨(Nat.le_of_ble_eq_true rfl), (Nat.le_of_ble_eq_true rfl)⟩ (fun r12 n12 h12 e12 => ?_)
    obtain ⟨rfl, q12, u12⟩ := e12
    rw [q12, u12]
    refine gi_if_eq (q := 18) (tgt := 22) C (dm_Bu_takeShape 9 rfl) rfl (by decide) (fun c15 => ?_) (fun c15 => ?_)
    · refine gi_iconst (q := 23) (v := 1) C (dm_Bu_takeShape 12 rfl) rfl (by decide) ?_
      refine gi_callv 1 (q := 26) C (dm_Bu_takeShape 13 rfl) rfl my_Bu_takeKind lk_Bu_121 im_Bu_takeKind rfl (c_Bu_tk 1 x (by omega) hx Q) Q.ob rfl rfl ⟨(Nat.le_of_ble_eq_true rfl), (Nat.le_of_ble_eq_true rfl)⟩ (Nat.le_of_ble_eq_true rfl) ⟨(Nat.le_of_ble_eq_true rfl), (Nat.le_of_ble_eq_true rfl)⟩ (fun r23 n23 h23 e23 => ?_)
      obtain ⟨rfl, hc23⟩ := e23
      rcases hc23 with ⟨t1, rfl, x9, Q9⟩ | ⟨y9, t1, rfl, Q9, X9⟩
      · refine gi_zret C hr (dm_Bu_takeShape 14 rfl) rfl ?_
        refine ⟨rfl, Or.inl ⟨?_, rfl, _, Q9⟩⟩
        rw [e2, bI_fa c15]
        exact tkK_1.symm.trans t1
      · refine gi_zret C hr (dm_Bu_takeShape 14 rfl) rfl ?_
        refine ⟨rfl, Or.inr ⟨_, ?_, rfl, Q9, X9⟩⟩
        rw [e2, bI_fa c15]
        exact tkK_1.symm.trans t1
    · refine gi_iconst (q := 19) (v := 2) C (dm_Bu_takeShape 10 rfl) rfl (by decide) ?_
      refine gi_goto (tgt := 23) C (dm_Bu_takeShape 11 rfl) (by decide) ?_
      refine gi_callv 1 (q := 26) C (dm_Bu_takeShape 13 rfl) rfl my_Bu_takeKind lk_Bu_121 im_Bu_takeKind rfl (c_Bu_tk 2 x (by omega) hx Q) Q.ob rfl rfl ⟨(Nat.le_of_ble_eq_true rfl), (Nat.le_of_ble_eq_true rfl)⟩ (Nat.le_of_ble_eq_true rfl) ⟨(Nat.le_of_ble_eq_true rfl), (Nat.le_of_ble_eq_true rfl)⟩ (fun r23 n23 h23 e23 => ?_)
      obtain ⟨rfl, hc23⟩ := e23
      rcases hc23 with ⟨t1, rfl, x9, Q9⟩ | ⟨y9, t1, rfl, Q9, X9⟩
      · refine gi_zret C hr (dm_Bu_takeShape 14 rfl) rfl ?_
        refine ⟨rfl, Or.inl ⟨?_, rfl, _, Q9⟩⟩
        rw [e2, bI_t c15]
        exact tkK_2.symm.trans t1
      · refine gi_zret C hr (dm_Bu_takeShape 14 rfl) rfl ?_
        refine ⟨rfl, Or.inr ⟨_, ?_, rfl, Q9, X9⟩⟩
        rw [e2, bI_t c15]
        exact tkK_2.symm.trans t1
set_option maxHeartbeats 4000000 in
set_option maxRecDepth 100000 in
theorem c_Bu_putShape {a : Int32} (o aa : Nat) (x : Sh) (W : wfP k P) (hm : m < k) (ho : o ≤ 35) (hod : opdOk k P m o a) (haa : aa = a.toNatClampNeg) (HP : pr_at pr (nI k) P h) (dp : pr + 8 ≤ bu ∨ bu + 8 ≤ pr) (hx8 : x.1 ≤ 8) (h5 : o = 5 → 1 ≤ x.1) (h6 : o = 6 → 2 ≤ x.1) (hx : isX S x) (Q : buO bu pr h0 S F h) : gi_T l V y_Bu_putShape b_Bu_putShape 4 none 2 43 0 0 [.ref bu, .int (nI m), .int (nI o), .int a] n h (fun v n' h' => v = none ∧ n' = n ∧ buO bu pr h0 (upX S (ptP P m o aa x)) F h' ∧ isX (upX S (ptP P m o aa x)) (ptP P m o aa x)) := by
  have IX : ∀ q, isX (upX S (ptS q x)) (ptS q x) := fun q => upX_is (by show x.1 + 1 ≤ 12; omega) (ptS_ok hx.2.2.2)
  refine gi_enter (by decide) (Nat.le_of_ble_eq_true rfl) ?_
  intro _ _ _ _ _ _ _ _ C hr hnm
  refine gi_iload_n (q := 1) (i := 2) C (dm_Bu_putShape 0 rfl) rfl rfl rfl ?_
  rcases (show o = 0 ∨ o = 1 ∨ o = 2 ∨ o = 3 ∨ o = 4 ∨ o = 5 ∨ o = 6 ∨ o = 7 ∨ o = 8 ∨ o = 9 ∨ o = 10 ∨ o = 11 ∨ o = 12 ∨ o = 13 ∨ o = 14 ∨ o = 15 ∨ o = 16 ∨ o = 17 ∨ o = 18 ∨ o = 19 ∨ o = 20 ∨ o = 21 ∨ o = 22 ∨ o = 23 ∨ o = 24 ∨ o = 25 ∨ o = 26 ∨ o = 27 ∨ o = 28 ∨ o = 29 ∨ o = 30 ∨ o = 31 ∨ o = 32 ∨ o = 33 ∨ o = 34 ∨ o = 35 by omega) with rfl | rfl | rfl | rfl | rfl | rfl | rfl | rfl | rfl | rfl | rfl | rfl | rfl | rfl | rfl | rfl | rfl | rfl | rfl | rfl | rfl | rfl | rfl | rfl | rfl | rfl | rfl | rfl | rfl | rfl | rfl | rfl | rfl | rfl | rfl | rfl
  · refine gi_tableIn (off := 250) (tgt := 251) C (dm_Bu_putShape 1 rfl) (by decide) (by decide) rfl (by decide) ?_
    refine gi_aload_n (q := 252) (i := 0) C (dm_Bu_putShape 51 rfl) rfl rfl rfl ?_
    refine gi_iconst (q := 253) (v := 0) C (dm_Bu_putShape 52 rfl) rfl (by decide) ?_
    refine gi_callv 1 (q := 256) C (dm_Bu_putShape 53 rfl) rfl my_Bu_putKind lk_Bu_134 im_Bu_putKind rfl (c_Bu_putKind false x hx Q) Q.ob rfl rfl ⟨(Nat.le_of_ble_eq_true rfl), (Nat.le_of_ble_eq_true rfl)⟩ (Nat.le_of_ble_eq_true rfl) ⟨(Nat.le_of_ble_eq_true rfl), (Nat.le_of_ble_eq_true rfl)⟩ (fun r253 n253 h253 e253 => ?_)
    obtain ⟨rfl, rfl, Q253⟩ := e253
    rw [show ptS false x = ptP P m 0 aa x from rfl] at Q253
    have I9 := IX false
    rw [show ptS false x = ptP P m 0 aa x from rfl] at I9
    refine gi_goto (tgt := 276) C (dm_Bu_putShape 54 rfl) (by decide) ?_
    refine gi_vret C hr (dm_Bu_putShape 64 rfl) ?_
    exact ⟨rfl, rfl, Q253, I9⟩
  · refine gi_tableIn (off := 155) (tgt := 156) C (dm_Bu_putShape 1 rfl) (by decide) (by decide) rfl (by decide) ?_
    have od := hod.1 (Or.inl rfl)
    have av := nn_nI (od).1
    rw [← haa] at av
    rw [av.1]
    have a6 : aa < 8 := by have := wf_ar W hm; omega
    refine gi_aload_n (q := 157) (i := 0) C (dm_Bu_putShape 2 rfl) rfl rfl rfl ?_
    refine gi_aload_n (q := 158) (i := 0) C (dm_Bu_putShape 3 rfl) rfl rfl rfl ?_
    refine gi_get (q := 161) C (dm_Bu_putShape 4 rfl) rfl fl_Bu_34 Q.ob rfl ?_
    refine gi_iload_n (q := 162) (i := 1) C (dm_Bu_putShape 5 rfl) rfl rfl rfl ?_
    refine gi_iload_n (q := 163) (i := 3) C (dm_Bu_putShape 6 rfl) rfl rfl rfl ?_
    refine gi_callv 2 (q := 166) C (dm_Bu_putShape 7 rfl) rfl my_Pr_holdsArray lk_Bu_118 im_Pr_holdsArray rfl (q_holds W hm a6 HP) HP.1 rfl rfl ⟨(Nat.le_of_ble_eq_true rfl), (Nat.le_of_ble_eq_true rfl)⟩ (Nat.le_of_ble_eq_true rfl) ⟨(Nat.le_of_ble_eq_true rfl), (Nat.le_of_ble_eq_true rfl)⟩ (fun r163 n163 h163 e163 => ?_)
    obtain ⟨rfl, q163, u163⟩ := e163
    rw [q163, u163]
    refine gi_callv 1 (q := 169) C (dm_Bu_putShape 8 rfl) rfl my_Bu_putKind lk_Bu_134 im_Bu_putKind rfl (c_Bu_putKind (kdB P m aa) x hx Q) Q.ob rfl rfl ⟨(Nat.le_of_ble_eq_true rfl), (Nat.le_of_ble_eq_true rfl)⟩ (Nat.le_of_ble_eq_true rfl) ⟨(Nat.le_of_ble_eq_true rfl), (Nat.le_of_ble_eq_true rfl)⟩ (fun r166 n166 h166 e166 => ?_)
    obtain ⟨rfl, rfl, Q166⟩ := e166
    rw [show ptS (kdB P m aa) x = ptP P m 1 aa x from rfl] at Q166
    have I9 := IX (kdB P m aa)
    rw [show ptS (kdB P m aa) x = ptP P m 1 aa x from rfl] at I9
    refine gi_goto (tgt := 276) C (dm_Bu_putShape 9 rfl) (by decide) ?_
    refine gi_vret C hr (dm_Bu_putShape 64 rfl) ?_
    exact ⟨rfl, rfl, Q166, I9⟩
  · refine gi_tableIn (off := 258) (tgt := 259) C (dm_Bu_putShape 1 rfl) (by decide) (by decide) rfl (by decide) ?_
    refine gi_iload_n (q := 260) (i := 2) C (dm_Bu_putShape 55 rfl) rfl rfl rfl ?_
    refine gi_bipush (q := 262) (v := 7) C (dm_Bu_putShape 56 rfl) rfl (by decide) ?_
    refine gi_icmp_lt (q := 265) (tgt := 276) C (dm_Bu_putShape 57 rfl) rfl (by decide) (fun c262 => ?_) (fun c262 => ?_)
    · refine gi_vret C hr (dm_Bu_putShape 64 rfl) ?_
      have ep : ptP P m 2 aa x = x := rfl
      rw [ep, hx.up]
      exact ⟨rfl, rfl, Q, hx⟩
    · exact absurd (show nI 2 < 7 by decide) c262
  · refine gi_tableIn (off := 207) (tgt := 208) C (dm_Bu_putShape 1 rfl) (by decide) (by decide) rfl (by decide) ?_
    refine gi_aload_n (q := 209) (i := 0) C (dm_Bu_putShape 30 rfl) rfl rfl rfl ?_
    refine gi_iconst (q := 210) (v := 1) C (dm_Bu_putShape 31 rfl) rfl (by decide) ?_
    refine gi_callv 1 (q := 213) C (dm_Bu_putShape 32 rfl) rfl my_Bu_putKind lk_Bu_134 im_Bu_putKind rfl (c_Bu_putKind true x hx Q) Q.ob rfl rfl ⟨(Nat.le_of_ble_eq_true rfl), (Nat.le_of_ble_eq_true rfl)⟩ (Nat.le_of_ble_eq_true rfl) ⟨(Nat.le_of_ble_eq_true rfl), (Nat.le_of_ble_eq_true rfl)⟩ (fun r210 n210 h210 e210 => ?_)
    obtain ⟨rfl, rfl, Q210⟩ := e210
    rw [show ptS true x = ptP P m 3 aa x from rfl] at Q210
    have I9 := IX true
    rw [show ptS true x = ptP P m 3 aa x from rfl] at I9
    refine gi_goto (tgt := 276) C (dm_Bu_putShape 33 rfl) (by decide) ?_
    refine gi_vret C hr (dm_Bu_putShape 64 rfl) ?_
    exact ⟨rfl, rfl, Q210, I9⟩
  · refine gi_tableIn (off := 258) (tgt := 259) C (dm_Bu_putShape 1 rfl) (by decide) (by decide) rfl (by decide) ?_
    refine gi_iload_n (q := 260) (i := 2) C (dm_Bu_putShape 55 rfl) rfl rfl rfl ?_
    refine gi_bipush (q := 262) (v := 7) C (dm_Bu_putShape 56 rfl) rfl (by decide) ?_
    refine gi_icmp_lt (q := 265) (tgt := 276) C (dm_Bu_putShape 57 rfl) rfl (by decide) (fun c262 => ?_) (fun c262 => ?_)
    · refine gi_vret C hr (dm_Bu_putShape 64 rfl) ?_
      have ep : ptP P m 4 aa x = x := rfl
      rw [ep, hx.up]
      exact ⟨rfl, rfl, Q, hx⟩
    · exact absurd (show nI 4 < 7 by decide) c262
  · refine gi_tableIn (off := 171) (tgt := 172) C (dm_Bu_putShape 1 rfl) (by decide) (by decide) rfl (by decide) ?_
    refine gi_aload_n (q := 173) (i := 0) C (dm_Bu_putShape 10 rfl) rfl rfl rfl ?_
    refine gi_aload_n (q := 174) (i := 0) C (dm_Bu_putShape 11 rfl) rfl rfl rfl ?_
    refine gi_get (q := 177) C (dm_Bu_putShape 12 rfl) rfl fl_Bu_106 Q.ob rfl ?_
    refine gi_aload_n (q := 178) (i := 0) C (dm_Bu_putShape 13 rfl) rfl rfl rfl ?_
    refine gi_get (q := 181) C (dm_Bu_putShape 14 rfl) rfl fl_Bu_103 Q.ob rfl ?_
    refine gi_iconst (q := 182) (v := 1) C (dm_Bu_putShape 15 rfl) rfl (by decide) ?_
    refine gi_isub (q := 183) C (dm_Bu_putShape 16 rfl) rfl ?_
    rw [hx.1, nI_m1 (h5 rfl), hx.2.1]
    refine gi_ishr (q := 184) C (dm_Bu_putShape 17 rfl) rfl ?_
    refine gi_iconst (q := 185) (v := 1) C (dm_Bu_putShape 18 rfl) rfl (by decide) ?_
    refine gi_iand (q := 186) C (dm_Bu_putShape 19 rfl) rfl ?_
    refine gi_iconst (q := 187) (v := 1) C (dm_Bu_putShape 20 rfl) rfl (by decide) ?_
    refine gi_icmp_ne (q := 190) (tgt := 194) C (dm_Bu_putShape 21 rfl) rfl (by decide) (fun c187 => ?_) (fun c187 => ?_)
    · have et : tpS x = false := by
        cases q : tpS x with
        | false => rfl
        | true => exact absurd ((bt_bit (d := x.1 - 1) (by omega)).mpr q) c187
      refine gi_iconst (q := 195) (v := 0) C (dm_Bu_putShape 24 rfl) rfl (by decide) ?_
      refine gi_callv 1 (q := 198) C (dm_Bu_putShape 25 rfl) rfl my_Bu_putKind lk_Bu_134 im_Bu_putKind rfl (c_Bu_putKind false x hx Q) Q.ob rfl rfl ⟨(Nat.le_of_ble_eq_true rfl), (Nat.le_of_ble_eq_true rfl)⟩ (Nat.le_of_ble_eq_true rfl) ⟨(Nat.le_of_ble_eq_true rfl), (Nat.le_of_ble_eq_true rfl)⟩ (fun r195 n195 h195 e195 => ?_)
      obtain ⟨rfl, rfl, Q195⟩ := e195
      have I9 := IX false
      refine gi_goto (tgt := 276) C (dm_Bu_putShape 26 rfl) (by decide) ?_
      refine gi_vret C hr (dm_Bu_putShape 64 rfl) ?_
      have ep : ptP P m 5 aa x = ptS (tpS x) x := rfl
      rw [ep, et]
      exact ⟨rfl, rfl, Q195, I9⟩
    · have et : tpS x = true := (bt_bit (d := x.1 - 1) (by omega)).mp c187
      refine gi_iconst (q := 191) (v := 1) C (dm_Bu_putShape 22 rfl) rfl (by decide) ?_
      refine gi_goto (tgt := 195) C (dm_Bu_putShape 23 rfl) (by decide) ?_
      refine gi_callv 1 (q := 198) C (dm_Bu_putShape 25 rfl) rfl my_Bu_putKind lk_Bu_134 im_Bu_putKind rfl (c_Bu_putKind true x hx Q) Q.ob rfl rfl ⟨(Nat.le_of_ble_eq_true rfl), (Nat.le_of_ble_eq_true rfl)⟩ (Nat.le_of_ble_eq_true rfl) ⟨(Nat.le_of_ble_eq_true rfl), (Nat.le_of_ble_eq_true rfl)⟩ (fun r195 n195 h195 e195 => ?_)
      obtain ⟨rfl, rfl, Q195⟩ := e195
      have I9 := IX true
      refine gi_goto (tgt := 276) C (dm_Bu_putShape 26 rfl) (by decide) ?_
      refine gi_vret C hr (dm_Bu_putShape 64 rfl) ?_
      have ep : ptP P m 5 aa x = ptS (tpS x) x := rfl
      rw [ep, et]
      exact ⟨rfl, rfl, Q195, I9⟩
  · refine gi_tableIn (off := 200) (tgt := 201) C (dm_Bu_putShape 1 rfl) (by decide) (by decide) rfl (by decide) ?_
    refine gi_aload_n (q := 202) (i := 0) C (dm_Bu_putShape 27 rfl) rfl rfl rfl ?_
    refine gi_callv 0 (q := 205) C (dm_Bu_putShape 28 rfl) rfl my_Bu_swapKinds lk_Bu_138 im_Bu_swapKinds rfl (c_Bu_swapKinds x (h6 rfl) (by omega) hx Q) Q.ob rfl rfl ⟨(Nat.le_of_ble_eq_true rfl), (Nat.le_of_ble_eq_true rfl)⟩ (Nat.le_of_ble_eq_true rfl) ⟨(Nat.le_of_ble_eq_true rfl), (Nat.le_of_ble_eq_true rfl)⟩ (fun r202 n202 h202 e202 => ?_)
    obtain ⟨rfl, rfl, Q202⟩ := e202
    refine gi_goto (tgt := 276) C (dm_Bu_putShape 29 rfl) (by decide) ?_
    refine gi_vret C hr (dm_Bu_putShape 64 rfl) ?_
    exact ⟨rfl, rfl, Q202, upX_is (by have := h6 rfl; show x.1 - 1 - 1 + 1 + 1 ≤ 12; omega) (ptS_ok (ptS_ok dpS_ok))⟩
  · refine gi_tableIn (off := 258) (tgt := 259) C (dm_Bu_putShape 1 rfl) (by decide) (by decide) rfl (by decide) ?_
    refine gi_iload_n (q := 260) (i := 2) C (dm_Bu_putShape 55 rfl) rfl rfl rfl ?_
    refine gi_bipush (q := 262) (v := 7) C (dm_Bu_putShape 56 rfl) rfl (by decide) ?_
    refine gi_icmp_lt (q := 265) (tgt := 276) C (dm_Bu_putShape 57 rfl) rfl (by decide) (fun c262 => ?_) (fun c262 => ?_)
    · exact absurd c262 (by decide)
    · refine gi_iload_n (q := 266) (i := 2) C (dm_Bu_putShape 58 rfl) rfl rfl rfl ?_
      refine gi_bipush (q := 268) (v := 18) C (dm_Bu_putShape 59 rfl) rfl (by decide) ?_
      refine gi_icmp_gt (q := 271) (tgt := 276) C (dm_Bu_putShape 60 rfl) rfl (by decide) (fun c268 => ?_) (fun c268 => ?_)
      · exact absurd c268 (by decide)
      · refine gi_aload_n (q := 272) (i := 0) C (dm_Bu_putShape 61 rfl) rfl rfl rfl ?_
        refine gi_iconst (q := 273) (v := 0) C (dm_Bu_putShape 62 rfl) rfl (by decide) ?_
        refine gi_callv 1 (q := 276) C (dm_Bu_putShape 63 rfl) rfl my_Bu_putKind lk_Bu_134 im_Bu_putKind rfl (c_Bu_putKind false x hx Q) Q.ob rfl rfl ⟨(Nat.le_of_ble_eq_true rfl), (Nat.le_of_ble_eq_true rfl)⟩ (Nat.le_of_ble_eq_true rfl) ⟨(Nat.le_of_ble_eq_true rfl), (Nat.le_of_ble_eq_true rfl)⟩ (fun r273 n273 h273 e273 => ?_)
        obtain ⟨rfl, rfl, Q273⟩ := e273
        rw [show ptS false x = ptP P m 7 aa x from rfl] at Q273
        have I9 := IX false
        rw [show ptS false x = ptP P m 7 aa x from rfl] at I9
        refine gi_vret C hr (dm_Bu_putShape 64 rfl) ?_
        exact ⟨rfl, rfl, Q273, I9⟩
  · refine gi_tableIn (off := 258) (tgt := 259) C (dm_Bu_putShape 1 rfl) (by decide) (by decide) rfl (by decide) ?_
    refine gi_iload_n (q := 260) (i := 2) C (dm_Bu_putShape 55 rfl) rfl rfl rfl ?_
    refine gi_bipush (q := 262) (v := 7) C (dm_Bu_putShape 56 rfl) rfl (by decide) ?_
    refine gi_icmp_lt (q := 265) (tgt := 276) C (dm_Bu_putShape 57 rfl) rfl (by decide) (fun c262 => ?_) (fun c262 => ?_)
    · exact absurd c262 (by decide)
    · refine gi_iload_n (q := 266) (i := 2) C (dm_Bu_putShape 58 rfl) rfl rfl rfl ?_
      refine gi_bipush (q := 268) (v := 18) C (dm_Bu_putShape 59 rfl) rfl (by decide) ?_
      refine gi_icmp_gt (q := 271) (tgt := 276) C (dm_Bu_putShape 60 rfl) rfl (by decide) (fun c268 => ?_) (fun c268 => ?_)
      · exact absurd c268 (by decide)
      · refine gi_aload_n (q := 272) (i := 0) C (dm_Bu_putShape 61 rfl) rfl rfl rfl ?_
        refine gi_iconst (q := 273) (v := 0) C (dm_Bu_putShape 62 rfl) rfl (by decide) ?_
        refine gi_callv 1 (q := 276) C (dm_Bu_putShape 63 rfl) rfl my_Bu_putKind lk_Bu_134 im_Bu_putKind rfl (c_Bu_putKind false x hx Q) Q.ob rfl rfl ⟨(Nat.le_of_ble_eq_true rfl), (Nat.le_of_ble_eq_true rfl)⟩ (Nat.le_of_ble_eq_true rfl) ⟨(Nat.le_of_ble_eq_true rfl), (Nat.le_of_ble_eq_true rfl)⟩ (fun r273 n273 h273 e273 => ?_)
        obtain ⟨rfl, rfl, Q273⟩ := e273
        rw [show ptS false x = ptP P m 8 aa x from rfl] at Q273
        have I9 := IX false
        rw [show ptS false x = ptP P m 8 aa x from rfl] at I9
        refine gi_vret C hr (dm_Bu_putShape 64 rfl) ?_
        exact ⟨rfl, rfl, Q273, I9⟩
  · refine gi_tableIn (off := 258) (tgt := 259) C (dm_Bu_putShape 1 rfl) (by decide) (by decide) rfl (by decide) ?_
    refine gi_iload_n (q := 260) (i := 2) C (dm_Bu_putShape 55 rfl) rfl rfl rfl ?_
    refine gi_bipush (q := 262) (v := 7) C (dm_Bu_putShape 56 rfl) rfl (by decide) ?_
    refine gi_icmp_lt (q := 265) (tgt := 276) C (dm_Bu_putShape 57 rfl) rfl (by decide) (fun c262 => ?_) (fun c262 => ?_)
    · exact absurd c262 (by decide)
    · refine gi_iload_n (q := 266) (i := 2) C (dm_Bu_putShape 58 rfl) rfl rfl rfl ?_
      refine gi_bipush (q := 268) (v := 18) C (dm_Bu_putShape 59 rfl) rfl (by decide) ?_
      refine gi_icmp_gt (q := 271) (tgt := 276) C (dm_Bu_putShape 60 rfl) rfl (by decide) (fun c268 => ?_) (fun c268 => ?_)
      · exact absurd c268 (by decide)
      · refine gi_aload_n (q := 272) (i := 0) C (dm_Bu_putShape 61 rfl) rfl rfl rfl ?_
        refine gi_iconst (q := 273) (v := 0) C (dm_Bu_putShape 62 rfl) rfl (by decide) ?_
        refine gi_callv 1 (q := 276) C (dm_Bu_putShape 63 rfl) rfl my_Bu_putKind lk_Bu_134 im_Bu_putKind rfl (c_Bu_putKind false x hx Q) Q.ob rfl rfl ⟨(Nat.le_of_ble_eq_true rfl), (Nat.le_of_ble_eq_true rfl)⟩ (Nat.le_of_ble_eq_true rfl) ⟨(Nat.le_of_ble_eq_true rfl), (Nat.le_of_ble_eq_true rfl)⟩ (fun r273 n273 h273 e273 => ?_)
        obtain ⟨rfl, rfl, Q273⟩ := e273
        rw [show ptS false x = ptP P m 9 aa x from rfl] at Q273
        have I9 := IX false
        rw [show ptS false x = ptP P m 9 aa x from rfl] at I9
        refine gi_vret C hr (dm_Bu_putShape 64 rfl) ?_
        exact ⟨rfl, rfl, Q273, I9⟩
  · refine gi_tableIn (off := 258) (tgt := 259) C (dm_Bu_putShape 1 rfl) (by decide) (by decide) rfl (by decide) ?_
    refine gi_iload_n (q := 260) (i := 2) C (dm_Bu_putShape 55 rfl) rfl rfl rfl ?_
    refine gi_bipush (q := 262) (v := 7) C (dm_Bu_putShape 56 rfl) rfl (by decide) ?_
    refine gi_icmp_lt (q := 265) (tgt := 276) C (dm_Bu_putShape 57 rfl) rfl (by decide) (fun c262 => ?_) (fun c262 => ?_)
    · exact absurd c262 (by decide)
    · refine gi_iload_n (q := 266) (i := 2) C (dm_Bu_putShape 58 rfl) rfl rfl rfl ?_
      refine gi_bipush (q := 268) (v := 18) C (dm_Bu_putShape 59 rfl) rfl (by decide) ?_
      refine gi_icmp_gt (q := 271) (tgt := 276) C (dm_Bu_putShape 60 rfl) rfl (by decide) (fun c268 => ?_) (fun c268 => ?_)
      · exact absurd c268 (by decide)
      · refine gi_aload_n (q := 272) (i := 0) C (dm_Bu_putShape 61 rfl) rfl rfl rfl ?_
        refine gi_iconst (q := 273) (v := 0) C (dm_Bu_putShape 62 rfl) rfl (by decide) ?_
        refine gi_callv 1 (q := 276) C (dm_Bu_putShape 63 rfl) rfl my_Bu_putKind lk_Bu_134 im_Bu_putKind rfl (c_Bu_putKind false x hx Q) Q.ob rfl rfl ⟨(Nat.le_of_ble_eq_true rfl), (Nat.le_of_ble_eq_true rfl)⟩ (Nat.le_of_ble_eq_true rfl) ⟨(Nat.le_of_ble_eq_true rfl), (Nat.le_of_ble_eq_true rfl)⟩ (fun r273 n273 h273 e273 => ?_)
        obtain ⟨rfl, rfl, Q273⟩ := e273
        rw [show ptS false x = ptP P m 10 aa x from rfl] at Q273
        have I9 := IX false
        rw [show ptS false x = ptP P m 10 aa x from rfl] at I9
        refine gi_vret C hr (dm_Bu_putShape 64 rfl) ?_
        exact ⟨rfl, rfl, Q273, I9⟩
  · refine gi_tableIn (off := 258) (tgt := 259) C (dm_Bu_putShape 1 rfl) (by decide) (by decide) rfl (by decide) ?_
    refine gi_iload_n (q := 260) (i := 2) C (dm_Bu_putShape 55 rfl) rfl rfl rfl ?_
    refine gi_bipush (q := 262) (v := 7) C (dm_Bu_putShape 56 rfl) rfl (by decide) ?_
    refine gi_icmp_lt (q := 265) (tgt := 276) C (dm_Bu_putShape 57 rfl) rfl (by decide) (fun c262 => ?_) (fun c262 => ?_)
    · exact absurd c262 (by decide)
    · refine gi_iload_n (q := 266) (i := 2) C (dm_Bu_putShape 58 rfl) rfl rfl rfl ?_
      refine gi_bipush (q := 268) (v := 18) C (dm_Bu_putShape 59 rfl) rfl (by decide) ?_
      refine gi_icmp_gt (q := 271) (tgt := 276) C (dm_Bu_putShape 60 rfl) rfl (by decide) (fun c268 => ?_) (fun c268 => ?_)
      · exact absurd c268 (by decide)
      · refine gi_aload_n (q := 272) (i := 0) C (dm_Bu_putShape 61 rfl) rfl rfl rfl ?_
        refine gi_iconst (q := 273) (v := 0) C (dm_Bu_putShape 62 rfl) rfl (by decide) ?_
        refine gi_callv 1 (q := 276) C (dm_Bu_putShape 63 rfl) rfl my_Bu_putKind lk_Bu_134 im_Bu_putKind rfl (c_Bu_putKind false x hx Q) Q.ob rfl rfl ⟨(Nat.le_of_ble_eq_true rfl), (Nat.le_of_ble_eq_true rfl)⟩ (Nat.le_of_ble_eq_true rfl) ⟨(Nat.le_of_ble_eq_true rfl), (Nat.le_of_ble_eq_true rfl)⟩ (fun r273 n273 h273 e273 => ?_)
        obtain ⟨rfl, rfl, Q273⟩ := e273
        rw [show ptS false x = ptP P m 11 aa x from rfl] at Q273
        have I9 := IX false
        rw [show ptS false x = ptP P m 11 aa x from rfl] at I9
        refine gi_vret C hr (dm_Bu_putShape 64 rfl) ?_
        exact ⟨rfl, rfl, Q273, I9⟩
  · refine gi_tableIn (off := 258) (tgt := 259) C (dm_Bu_putShape 1 rfl) (by decide) (by decide) rfl (by decide) ?_
    refine gi_iload_n (q := 260) (i := 2) C (dm_Bu_putShape 55 rfl) rfl rfl rfl ?_
    refine gi_bipush (q := 262) (v := 7) C (dm_Bu_putShape 56 rfl) rfl (by decide) ?_
    refine gi_icmp_lt (q := 265) (tgt := 276) C (dm_Bu_putShape 57 rfl) rfl (by decide) (fun c262 => ?_) (fun c262 => ?_)
    · exact absurd c262 (by decide)
    · refine gi_iload_n (q := 266) (i := 2) C (dm_Bu_putShape 58 rfl) rfl rfl rfl ?_
      refine gi_bipush (q := 268) (v := 18) C (dm_Bu_putShape 59 rfl) rfl (by decide) ?_
      refine gi_icmp_gt (q := 271) (tgt := 276) C (dm_Bu_putShape 60 rfl) rfl (by decide) (fun c268 => ?_) (fun c268 => ?_)
      · exact absurd c268 (by decide)
      · refine gi_aload_n (q := 272) (i := 0) C (dm_Bu_putShape 61 rfl) rfl rfl rfl ?_
        refine gi_iconst (q := 273) (v := 0) C (dm_Bu_putShape 62 rfl) rfl (by decide) ?_
        refine gi_callv 1 (q := 276) C (dm_Bu_putShape 63 rfl) rfl my_Bu_putKind lk_Bu_134 im_Bu_putKind rfl (c_Bu_putKind false x hx Q) Q.ob rfl rfl ⟨(Nat.le_of_ble_eq_true rfl), (Nat.le_of_ble_eq_true rfl)⟩ (Nat.le_of_ble_eq_true rfl) ⟨(Nat.le_of_ble_eq_true rfl), (Nat.le_of_ble_eq_true rfl)⟩ (fun r273 n273 h273 e273 => ?_)
        obtain ⟨rfl, rfl, Q273⟩ := e273
        rw [show ptS false x = ptP P m 12 aa x from rfl] at Q273
        have I9 := IX false
        rw [show ptS false x = ptP P m 12 aa x from rfl] at I9
        refine gi_vret C hr (dm_Bu_putShape 64 rfl) ?_
        exact ⟨rfl, rfl, Q273, I9⟩
  · refine gi_tableIn (off := 258) (tgt := 259) C (dm_Bu_putShape 1 rfl) (by decide) (by decide) rfl (by decide) ?_
    refine gi_iload_n (q := 260) (i := 2) C (dm_Bu_putShape 55 rfl) rfl rfl rfl ?_
    refine gi_bipush (q := 262) (v := 7) C (dm_Bu_putShape 56 rfl) rfl (by decide) ?_
    refine gi_icmp_lt (q := 265) (tgt := 276) C (dm_Bu_putShape 57 rfl) rfl (by decide) (fun c262 => ?_) (fun c262 => ?_)
    · exact absurd c262 (by decide)
    · refine gi_iload_n (q := 266) (i := 2) C (dm_Bu_putShape 58 rfl) rfl rfl rfl ?_
      refine gi_bipush (q := 268) (v := 18) C (dm_Bu_putShape 59 rfl) rfl (by decide) ?_
      refine gi_icmp_gt (q := 271) (tgt := 276) C (dm_Bu_putShape 60 rfl) rfl (by decide) (fun c268 => ?_) (fun c268 => ?_)
      · exact absurd c268 (by decide)
      · refine gi_aload_n (q := 272) (i := 0) C (dm_Bu_putShape 61 rfl) rfl rfl rfl ?_
        refine gi_iconst (q := 273) (v := 0) C (dm_Bu_putShape 62 rfl) rfl (by decide) ?_
        refine gi_callv 1 (q := 276) C (dm_Bu_putShape 63 rfl) rfl my_Bu_putKind lk_Bu_134 im_Bu_putKind rfl (c_Bu_putKind false x hx Q) Q.ob rfl rfl ⟨(Nat.le_of_ble_eq_true rfl), (Nat.le_of_ble_eq_true rfl)⟩ (Nat.le_of_ble_eq_true rfl) ⟨(Nat.le_of_ble_eq_true rfl), (Nat.le_of_ble_eq_true rfl)⟩ (fun r273 n273 h273 e273 => ?_)
        obtain ⟨rfl, rfl, Q273⟩ := e273
        rw [show ptS false x = ptP P m 13 aa x from rfl] at Q273
        have I9 := IX false
        rw [show ptS false x = ptP P m 13 aa x from rfl] at I9
        refine gi_vret C hr (dm_Bu_putShape 64 rfl) ?_
        exact ⟨rfl, rfl, Q273, I9⟩
  · refine gi_tableIn (off := 258) (tgt := 259) C (dm_Bu_putShape 1 rfl) (by decide) (by decide) rfl (by decide) ?_
    refine gi_iload_n (q := 260) (i := 2) C (dm_Bu_putShape 55 rfl) rfl rfl rfl ?_
    refine gi_bipush (q := 262) (v := 7) C (dm_Bu_putShape 56 rfl) rfl (by decide) ?_
    refine gi_icmp_lt (q := 265) (tgt := 276) C (dm_Bu_putShape 57 rfl) rfl (by decide) (fun c262 => ?_) (fun c262 => ?_)
    · exact absurd c262 (by decide)
    · refine gi_iload_n (q := 266) (i := 2) C (dm_Bu_putShape 58 rfl) rfl rfl rfl ?_
      refine gi_bipush (q := 268) (v := 18) C (dm_Bu_putShape 59 rfl) rfl (by decide) ?_
      refine gi_icmp_gt (q := 271) (tgt := 276) C (dm_Bu_putShape 60 rfl) rfl (by decide) (fun c268 => ?_) (fun c268 => ?_)
      · exact absurd c268 (by decide)
      · refine gi_aload_n (q := 272) (i := 0) C (dm_Bu_putShape 61 rfl) rfl rfl rfl ?_
        refine gi_iconst (q := 273) (v := 0) C (dm_Bu_putShape 62 rfl) rfl (by decide) ?_
        refine gi_callv 1 (q := 276) C (dm_Bu_putShape 63 rfl) rfl my_Bu_putKind lk_Bu_134 im_Bu_putKind rfl (c_Bu_putKind false x hx Q) Q.ob rfl rfl ⟨(Nat.le_of_ble_eq_true rfl), (Nat.le_of_ble_eq_true rfl)⟩ (Nat.le_of_ble_eq_true rfl) ⟨(Nat.le_of_ble_eq_true rfl), (Nat.le_of_ble_eq_true rfl)⟩ (fun r273 n273 h273 e273 => ?_)
        obtain ⟨rfl, rfl, Q273⟩ := e273
        rw [show ptS false x = ptP P m 14 aa x from rfl] at Q273
        have I9 := IX false
        rw [show ptS false x = ptP P m 14 aa x from rfl] at I9
        refine gi_vret C hr (dm_Bu_putShape 64 rfl) ?_
        exact ⟨rfl, rfl, Q273, I9⟩
  · refine gi_tableIn (off := 258) (tgt := 259) C (dm_Bu_putShape 1 rfl) (by decide) (by decide) rfl (by decide) ?_
    refine gi_iload_n (q := 260) (i := 2) C (dm_Bu_putShape 55 rfl) rfl rfl rfl ?_
    refine gi_bipush (q := 262) (v := 7) C (dm_Bu_putShape 56 rfl) rfl (by decide) ?_
    refine gi_icmp_lt (q := 265) (tgt := 276) C (dm_Bu_putShape 57 rfl) rfl (by decide) (fun c262 => ?_) (fun c262 => ?_)
    · exact absurd c262 (by decide)
    · refine gi_iload_n (q := 266) (i := 2) C (dm_Bu_putShape 58 rfl) rfl rfl rfl ?_
      refine gi_bipush (q := 268) (v := 18) C (dm_Bu_putShape 59 rfl) rfl (by decide) ?_
      refine gi_icmp_gt (q := 271) (tgt := 276) C (dm_Bu_putShape 60 rfl) rfl (by decide) (fun c268 => ?_) (fun c268 => ?_)
      · exact absurd c268 (by decide)
      · refine gi_aload_n (q := 272) (i := 0) C (dm_Bu_putShape 61 rfl) rfl rfl rfl ?_
        refine gi_iconst (q := 273) (v := 0) C (dm_Bu_putShape 62 rfl) rfl (by decide) ?_
        refine gi_callv 1 (q := 276) C (dm_Bu_putShape 63 rfl) rfl my_Bu_putKind lk_Bu_134 im_Bu_putKind rfl (c_Bu_putKind false x hx Q) Q.ob rfl rfl ⟨(Nat.le_of_ble_eq_true rfl), (Nat.le_of_ble_eq_true rfl)⟩ (Nat.le_of_ble_eq_true rfl) ⟨(Nat.le_of_ble_eq_true rfl), (Nat.le_of_ble_eq_true rfl)⟩ (fun r273 n273 h273 e273 => ?_)
        obtain ⟨rfl, rfl, Q273⟩ := e273
        rw [show ptS false x = ptP P m 15 aa x from rfl] at Q273
        have I9 := IX false
        rw [show ptS false x = ptP P m 15 aa x from rfl] at I9
        refine gi_vret C hr (dm_Bu_putShape 64 rfl) ?_
        exact ⟨rfl, rfl, Q273, I9⟩
  · refine gi_tableIn (off := 258) (tgt := 259) C (dm_Bu_putShape 1 rfl) (by decide) (by decide) rfl (by decide) ?_
    refine gi_iload_n (q := 260) (i := 2) C (dm_Bu_putShape 55 rfl) rfl rfl rfl ?_
    refine gi_bipush (q := 262) (v := 7) C (dm_Bu_putShape 56 rfl) rfl (by decide) ?_
    refine gi_icmp_lt (q := 265) (tgt := 276) C (dm_Bu_putShape 57 rfl) rfl (by decide) (fun c262 => ?_) (fun c262 => ?_)
    · exact absurd c262 (by decide)
    · refine gi_iload_n (q := 266) (i := 2) C (dm_Bu_putShape 58 rfl) rfl rfl rfl ?_
      refine gi_bipush (q := 268) (v := 18) C (dm_Bu_putShape 59 rfl) rfl (by decide) ?_
      refine gi_icmp_gt (q := 271) (tgt := 276) C (dm_Bu_putShape 60 rfl) rfl (by decide) (fun c268 => ?_) (fun c268 => ?_)
      · exact absurd c268 (by decide)
      · refine gi_aload_n (q := 272) (i := 0) C (dm_Bu_putShape 61 rfl) rfl rfl rfl ?_
        refine gi_iconst (q := 273) (v := 0) C (dm_Bu_putShape 62 rfl) rfl (by decide) ?_
        refine gi_callv 1 (q := 276) C (dm_Bu_putShape 63 rfl) rfl my_Bu_putKind lk_Bu_134 im_Bu_putKind rfl (c_Bu_putKind false x hx Q) Q.ob rfl rfl ⟨(Nat.le_of_ble_eq_true rfl), (Nat.le_of_ble_eq_true rfl)⟩ (Nat.le_of_ble_eq_true rfl) ⟨(Nat.le_of_ble_eq_true rfl), (Nat.le_of_ble_eq_true rfl)⟩ (fun r273 n273 h273 e273 => ?_)
        obtain ⟨rfl, rfl, Q273⟩ := e273
        rw [show ptS false x = ptP P m 16 aa x from rfl] at Q273
        have I9 := IX false
        rw [show ptS false x = ptP P m 16 aa x from rfl] at I9
        refine gi_vret C hr (dm_Bu_putShape 64 rfl) ?_
        exact ⟨rfl, rfl, Q273, I9⟩
  · refine gi_tableIn (off := 258) (tgt := 259) C (dm_Bu_putShape 1 rfl) (by decide) (by decide) rfl (by decide) ?_
    refine gi_iload_n (q := 260) (i := 2) C (dm_Bu_putShape 55 rfl) rfl rfl rfl ?_
    refine gi_bipush (q := 262) (v := 7) C (dm_Bu_putShape 56 rfl) rfl (by decide) ?_
    refine gi_icmp_lt (q := 265) (tgt := 276) C (dm_Bu_putShape 57 rfl) rfl (by decide) (fun c262 => ?_) (fun c262 => ?_)
    · exact absurd c262 (by decide)
    · refine gi_iload_n (q := 266) (i := 2) C (dm_Bu_putShape 58 rfl) rfl rfl rfl ?_
      refine gi_bipush (q := 268) (v := 18) C (dm_Bu_putShape 59 rfl) rfl (by decide) ?_
      refine gi_icmp_gt (q := 271) (tgt := 276) C (dm_Bu_putShape 60 rfl) rfl (by decide) (fun c268 => ?_) (fun c268 => ?_)
      · exact absurd c268 (by decide)
      · refine gi_aload_n (q := 272) (i := 0) C (dm_Bu_putShape 61 rfl) rfl rfl rfl ?_
        refine gi_iconst (q := 273) (v := 0) C (dm_Bu_putShape 62 rfl) rfl (by decide) ?_
        refine gi_callv 1 (q := 276) C (dm_Bu_putShape 63 rfl) rfl my_Bu_putKind lk_Bu_134 im_Bu_putKind rfl (c_Bu_putKind false x hx Q) Q.ob rfl rfl ⟨(Nat.le_of_ble_eq_true rfl), (Nat.le_of_ble_eq_true rfl)⟩ (Nat.le_of_ble_eq_true rfl) ⟨(Nat.le_of_ble_eq_true rfl), (Nat.le_of_ble_eq_true rfl)⟩ (fun r273 n273 h273 e273 => ?_)
        obtain ⟨rfl, rfl, Q273⟩ := e273
        rw [show ptS false x = ptP P m 17 aa x from rfl] at Q273
        have I9 := IX false
        rw [show ptS false x = ptP P m 17 aa x from rfl] at I9
        refine gi_vret C hr (dm_Bu_putShape 64 rfl) ?_
        exact ⟨rfl, rfl, Q273, I9⟩
  · refine gi_tableIn (off := 258) (tgt := 259) C (dm_Bu_putShape 1 rfl) (by decide) (by decide) rfl (by decide) ?_
    refine gi_iload_n (q := 260) (i := 2) C (dm_Bu_putShape 55 rfl) rfl rfl rfl ?_
    refine gi_bipush (q := 262) (v := 7) C (dm_Bu_putShape 56 rfl) rfl (by decide) ?_
    refine gi_icmp_lt (q := 265) (tgt := 276) C (dm_Bu_putShape 57 rfl) rfl (by decide) (fun c262 => ?_) (fun c262 => ?_)
    · exact absurd c262 (by decide)
    · refine gi_iload_n (q := 266) (i := 2) C (dm_Bu_putShape 58 rfl) rfl rfl rfl ?_
      refine gi_bipush (q := 268) (v := 18) C (dm_Bu_putShape 59 rfl) rfl (by decide) ?_
      refine gi_icmp_gt (q := 271) (tgt := 276) C (dm_Bu_putShape 60 rfl) rfl (by decide) (fun c268 => ?_) (fun c268 => ?_)
      · exact absurd c268 (by decide)
      · refine gi_aload_n (q := 272) (i := 0) C (dm_Bu_putShape 61 rfl) rfl rfl rfl ?_
        refine gi_iconst (q := 273) (v := 0) C (dm_Bu_putShape 62 rfl) rfl (by decide) ?_
        refine gi_callv 1 (q := 276) C (dm_Bu_putShape 63 rfl) rfl my_Bu_putKind lk_Bu_134 im_Bu_putKind rfl (c_Bu_putKind false x hx Q) Q.ob rfl rfl ⟨(Nat.le_of_ble_eq_true rfl), (Nat.le_of_ble_eq_true rfl)⟩ (Nat.le_of_ble_eq_true rfl) ⟨(Nat.le_of_ble_eq_true rfl), (Nat.le_of_ble_eq_true rfl)⟩ (fun r273 n273 h273 e273 => ?_)
        obtain ⟨rfl, rfl, Q273⟩ := e273
        rw [show ptS false x = ptP P m 18 aa x from rfl] at Q273
        have I9 := IX false
        rw [show ptS false x = ptP P m 18 aa x from rfl] at I9
        refine gi_vret C hr (dm_Bu_putShape 64 rfl) ?_
        exact ⟨rfl, rfl, Q273, I9⟩
  · refine gi_tableIn (off := 258) (tgt := 259) C (dm_Bu_putShape 1 rfl) (by decide) (by decide) rfl (by decide) ?_
    refine gi_iload_n (q := 260) (i := 2) C (dm_Bu_putShape 55 rfl) rfl rfl rfl ?_
    refine gi_bipush (q := 262) (v := 7) C (dm_Bu_putShape 56 rfl) rfl (by decide) ?_
    refine gi_icmp_lt (q := 265) (tgt := 276) C (dm_Bu_putShape 57 rfl) rfl (by decide) (fun c262 => ?_) (fun c262 => ?_)
    · exact absurd c262 (by decide)
    · refine gi_iload_n (q := 266) (i := 2) C (dm_Bu_putShape 58 rfl) rfl rfl rfl ?_
      refine gi_bipush (q := 268) (v := 18) C (dm_Bu_putShape 59 rfl) rfl (by decide) ?_
      refine gi_icmp_gt (q := 271) (tgt := 276) C (dm_Bu_putShape 60 rfl) rfl (by decide) (fun c268 => ?_) (fun c268 => ?_)
      · refine gi_vret C hr (dm_Bu_putShape 64 rfl) ?_
        have ep : ptP P m 19 aa x = x := rfl
        rw [ep, hx.up]
        exact ⟨rfl, rfl, Q, hx⟩
      · exact absurd (show (18 : Int32) < nI 19 by decide) c268
  · refine gi_tableIn (off := 258) (tgt := 259) C (dm_Bu_putShape 1 rfl) (by decide) (by decide) rfl (by decide) ?_
    refine gi_iload_n (q := 260) (i := 2) C (dm_Bu_putShape 55 rfl) rfl rfl rfl ?_
    refine gi_bipush (q := 262) (v := 7) C (dm_Bu_putShape 56 rfl) rfl (by decide) ?_
    refine gi_icmp_lt (q := 265) (tgt := 276) C (dm_Bu_putShape 57 rfl) rfl (by decide) (fun c262 => ?_) (fun c262 => ?_)
    · exact absurd c262 (by decide)
    · refine gi_iload_n (q := 266) (i := 2) C (dm_Bu_putShape 58 rfl) rfl rfl rfl ?_
      refine gi_bipush (q := 268) (v := 18) C (dm_Bu_putShape 59 rfl) rfl (by decide) ?_
      refine gi_icmp_gt (q := 271) (tgt := 276) C (dm_Bu_putShape 60 rfl) rfl (by decide) (fun c268 => ?_) (fun c268 => ?_)
      · refine gi_vret C hr (dm_Bu_putShape 64 rfl) ?_
        have ep : ptP P m 20 aa x = x := rfl
        rw [ep, hx.up]
        exact ⟨rfl, rfl, Q, hx⟩
      · exact absurd (show (18 : Int32) < nI 20 by decide) c268
  · refine gi_tableIn (off := 258) (tgt := 259) C (dm_Bu_putShape 1 rfl) (by decide) (by decide) rfl (by decide) ?_
    refine gi_iload_n (q := 260) (i := 2) C (dm_Bu_putShape 55 rfl) rfl rfl rfl ?_
    refine gi_bipush (q := 262) (v := 7) C (dm_Bu_putShape 56 rfl) rfl (by decide) ?_
    refine gi_icmp_lt (q := 265) (tgt := 276) C (dm_Bu_putShape 57 rfl) rfl (by decide) (fun c262 => ?_) (fun c262 => ?_)
    · exact absurd c262 (by decide)
    · refine gi_iload_n (q := 266) (i := 2) C (dm_Bu_putShape 58 rfl) rfl rfl rfl ?_
      refine gi_bipush (q := 268) (v := 18) C (dm_Bu_putShape 59 rfl) rfl (by decide) ?_
      refine gi_icmp_gt (q := 271) (tgt := 276) C (dm_Bu_putShape 60 rfl) rfl (by decide) (fun c268 => ?_) (fun c268 => ?_)
      · refine gi_vret C hr (dm_Bu_putShape 64 rfl) ?_
        have ep : ptP P m 21 aa x = x := rfl
        rw [ep, hx.up]
        exact ⟨rfl, rfl, Q, hx⟩
      · exact absurd (show (18 : Int32) < nI 21 by decide) c268
  · refine gi_tableIn (off := 258) (tgt := 259) C (dm_Bu_putShape 1 rfl) (by decide) (by decide) rfl (by decide) ?_
    refine gi_iload_n (q := 260) (i := 2) C (dm_Bu_putShape 55 rfl) rfl rfl rfl ?_
    refine gi_bipush (q := 262) (v := 7) C (dm_Bu_putShape 56 rfl) rfl (by decide) ?_
    refine gi_icmp_lt (q := 265) (tgt := 276) C (dm_Bu_putShape 57 rfl) rfl (by decide) (fun c262 => ?_) (fun c262 => ?_)
    · exact absurd c262 (by decide)
    · refine gi_iload_n (q := 266) (i := 2) C (dm_Bu_putShape 58 rfl) rfl rfl rfl ?_
      refine gi_bipush (q := 268) (v := 18) C (dm_Bu_putShape 59 rfl) rfl (by decide) ?_
      refine gi_icmp_gt (q := 271) (tgt := 276) C (dm_Bu_putShape 60 rfl) rfl (by decide) (fun c268 => ?_) (fun c268 => ?_)
      · refine gi_vret C hr (dm_Bu_putShape 64 rfl) ?_
        have ep : ptP P m 22 aa x = x := rfl
        rw [ep, hx.up]
        exact ⟨rfl, rfl, Q, hx⟩
      · exact absurd (show (18 : Int32) < nI 22 by decide) c268
  · refine gi_tableIn (off := 258) (tgt := 259) C (dm_Bu_putShape 1 rfl) (by decide) (by decide) rfl (by decide) ?_
    refine gi_iload_n (q := 260) (i := 2) C (dm_Bu_putShape 55 rfl) rfl rfl rfl ?_
    refine gi_bipush (q := 262) (v := 7) C (dm_Bu_putShape 56 rfl) rfl (by decide) ?_
    refine gi_icmp_lt (q := 265) (tgt := 276) C (dm_Bu_putShape 57 rfl) rfl (by decide) (fun c262 => ?_) (fun c262 => ?_)
    · exact absurd c262 (by decide)
    · refine gi_iload_n (q := 266) (i := 2) C (dm_Bu_putShape 58 rfl) rfl rfl rfl ?_
      refine gi_bipush (q := 268) (v := 18) C (dm_Bu_putShape 59 rfl) rfl (by decide) ?_
      refine gi_icmp_gt (q := 271) (tgt := 276) C (dm_Bu_putShape 60 rfl) rfl (by decide) (fun c268 => ?_) (fun c268 => ?_)
      · refine gi_vret C hr (dm_Bu_putShape 64 rfl) ?_
        have ep : ptP P m 23 aa x = x := rfl
        rw [ep, hx.up]
        exact ⟨rfl, rfl, Q, hx⟩
      · exact absurd (show (18 : Int32) < nI 23 by decide) c268
  · refine gi_tableIn (off := 258) (tgt := 259) C (dm_Bu_putShape 1 rfl) (by decide) (by decide) rfl (by decide) ?_
    refine gi_iload_n (q := 260) (i := 2) C (dm_Bu_putShape 55 rfl) rfl rfl rfl ?_
    refine gi_bipush (q := 262) (v := 7) C (dm_Bu_putShape 56 rfl) rfl (by decide) ?_
    refine gi_icmp_lt (q := 265) (tgt := 276) C (dm_Bu_putShape 57 rfl) rfl (by decide) (fun c262 => ?_) (fun c262 => ?_)
    · exact absurd c262 (by decide)
    · refine gi_iload_n (q := 266) (i := 2) C (dm_Bu_putShape 58 rfl) rfl rfl rfl ?_
      refine gi_bipush (q := 268) (v := 18) C (dm_Bu_putShape 59 rfl) rfl (by decide) ?_
      refine gi_icmp_gt (q := 271) (tgt := 276) C (dm_Bu_putShape 60 rfl) rfl (by decide) (fun c268 => ?_) (fun c268 => ?_)
      · refine gi_vret C hr (dm_Bu_putShape 64 rfl) ?_
        have ep : ptP P m 24 aa x = x := rfl
        rw [ep, hx.up]
        exact ⟨rfl, rfl, Q, hx⟩
      · exact absurd (show (18 : Int32) < nI 24 by decide) c268
  · refine gi_tableIn (off := 258) (tgt := 259) C (dm_Bu_putShape 1 rfl) (by decide) (by decide) rfl (by decide) ?_
    refine gi_iload_n (q := 260) (i := 2) C (dm_Bu_putShape 55 rfl) rfl rfl rfl ?_
    refine gi_bipush (q := 262) (v := 7) C (dm_Bu_putShape 56 rfl) rfl (by decide) ?_
    refine gi_icmp_lt (q := 265) (tgt := 276) C (dm_Bu_putShape 57 rfl) rfl (by decide) (fun c262 => ?_) (fun c262 => ?_)
    · exact absurd c262 (by decide)
    · refine gi_iload_n (q := 266) (i := 2) C (dm_Bu_putShape 58 rfl) rfl rfl rfl ?_
      refine gi_bipush (q := 268) (v := 18) C (dm_Bu_putShape 59 rfl) rfl (by decide) ?_
      refine gi_icmp_gt (q := 271) (tgt := 276) C (dm_Bu_putShape 60 rfl) rfl (by decide) (fun c268 => ?_) (fun c268 => ?_)
      · refine gi_vret C hr (dm_Bu_putShape 64 rfl) ?_
        have ep : ptP P m 25 aa x = x := rfl
        rw [ep, hx.up]
        exact ⟨rfl, rfl, Q, hx⟩
      · exact absurd (show (18 : Int32) < nI 25 by decide) c268
  · refine gi_tableIn (off := 258) (tgt := 259) C (dm_Bu_putShape 1 rfl) (by decide) (by decide) rfl (by decide) ?_
    refine gi_iload_n (q := 260) (i := 2) C (dm_Bu_putShape 55 rfl) rfl rfl rfl ?_
    refine gi_bipush (q := 262) (v := 7) C (dm_Bu_putShape 56 rfl) rfl (by decide) ?_
    refine gi_icmp_lt (q := 265) (tgt := 276) C (dm_Bu_putShape 57 rfl) rfl (by decide) (fun c262 => ?_) (fun c262 => ?_)
    · exact absurd c262 (by decide)
    · refine gi_iload_n (q := 266) (i := 2) C (dm_Bu_putShape 58 rfl) rfl rfl rfl ?_
      refine gi_bipush (q := 268) (v := 18) C (dm_Bu_putShape 59 rfl) rfl (by decide) ?_
      refine gi_icmp_gt (q := 271) (tgt := 276) C (dm_Bu_putShape 60 rfl) rfl (by decide) (fun c268 => ?_) (fun c268 => ?_)
      · refine gi_vret C hr (dm_Bu_putShape 64 rfl) ?_
        have ep : ptP P m 26 aa x = x := rfl
        rw [ep, hx.up]
        exact ⟨rfl, rfl, Q, hx⟩
      · exact absurd (show (18 : Int32) < nI 26 by decide) c268
  · refine gi_tableIn (off := 258) (tgt := 259) C (dm_Bu_putShape 1 rfl) (by decide) (by decide) rfl (by decide) ?_
    refine gi_iload_n (q := 260) (i := 2) C (dm_Bu_putShape 55 rfl) rfl rfl rfl ?_
    refine gi_bipush (q := 262) (v := 7) C (dm_Bu_putShape 56 rfl) rfl (by decide) ?_
    refine gi_icmp_lt (q := 265) (tgt := 276) C (dm_Bu_putShape 57 rfl) rfl (by decide) (fun c262 => ?_) (fun c262 => ?_)
    · exact absurd c262 (by decide)
    · refine gi_iload_n (q := 266) (i := 2) C (dm_Bu_putShape 58 rfl) rfl rfl rfl ?_
      refine gi_bipush (q := 268) (v := 18) C (dm_Bu_putShape 59 rfl) rfl (by decide) ?_
      refine gi_icmp_gt (q := 271) (tgt := 276) C (dm_Bu_putShape 60 rfl) rfl (by decide) (fun c268 => ?_) (fun c268 => ?_)
      · refine gi_vret C hr (dm_Bu_putShape 64 rfl) ?_
        have ep : ptP P m 27 aa x = x := rfl
        rw [ep, hx.up]
        exact ⟨rfl, rfl, Q, hx⟩
      · exact absurd (show (18 : Int32) < nI 27 by decide) c268
  · refine gi_tableIn (off := 207) (tgt := 208) C (dm_Bu_putShape 1 rfl) (by decide) (by decide) rfl (by decide) ?_
    refine gi_aload_n (q := 209) (i := 0) C (dm_Bu_putShape 30 rfl) rfl rfl rfl ?_
    refine gi_iconst (q := 210) (v := 1) C (dm_Bu_putShape 31 rfl) rfl (by decide) ?_
    refine gi_callv 1 (q := 213) C (dm_Bu_putShape 32 rfl) rfl my_Bu_putKind lk_Bu_134 im_Bu_putKind rfl (c_Bu_putKind true x hx Q) Q.ob rfl rfl ⟨(Nat.le_of_ble_eq_true rfl), (Nat.le_of_ble_eq_true rfl)⟩ (Nat.le_of_ble_eq_true rfl) ⟨(Nat.le_of_ble_eq_true rfl), (Nat.le_of_ble_eq_true rfl)⟩ (fun r210 n210 h210 e210 => ?_)
    obtain ⟨rfl, rfl, Q210⟩ := e210
    rw [show ptS true x = ptP P m 28 aa x from rfl] at Q210
    have I9 := IX true
    rw [show ptS true x = ptP P m 28 aa x from rfl] at I9
    refine gi_goto (tgt := 276) C (dm_Bu_putShape 33 rfl) (by decide) ?_
    refine gi_vret C hr (dm_Bu_putShape 64 rfl) ?_
    exact ⟨rfl, rfl, Q210, I9⟩
  · refine gi_tableIn (off := 250) (tgt := 251) C (dm_Bu_putShape 1 rfl) (by decide) (by decide) rfl (by decide) ?_
    refine gi_aload_n (q := 252) (i := 0) C (dm_Bu_putShape 51 rfl) rfl rfl rfl ?_
    refine gi_iconst (q := 253) (v := 0) C (dm_Bu_putShape 52 rfl) rfl (by decide) ?_
    refine gi_callv 1 (q := 256) C (dm_Bu_putShape 53 rfl) rfl my_Bu_putKind lk_Bu_134 im_Bu_putKind rfl (c_Bu_putKind false x hx Q) Q.ob rfl rfl ⟨(Nat.le_of_ble_eq_true rfl), (Nat.le_of_ble_eq_true rfl)⟩ (Nat.le_of_ble_eq_true rfl) ⟨(Nat.le_of_ble_eq_true rfl), (Nat.le_of_ble_eq_true rfl)⟩ (fun r253 n253 h253 e253 => ?_)
    obtain ⟨rfl, rfl, Q253⟩ := e253
    rw [show ptS false x = ptP P m 29 aa x from rfl] at Q253
    have I9 := IX false
    rw [show ptS false x = ptP P m 29 aa x from rfl] at I9
    refine gi_goto (tgt := 276) C (dm_Bu_putShape 54 rfl) (by decide) ?_
    refine gi_vret C hr (dm_Bu_putShape 64 rfl) ?_
    exact ⟨rfl, rfl, Q253, I9⟩
  · refine gi_tableIn (off := 250) (tgt := 251) C (dm_Bu_putShape 1 rfl) (by decide) (by decide) rfl (by decide) ?_
    refine gi_aload_n (q := 252) (i := 0) C (dm_Bu_putShape 51 rfl) rfl rfl rfl ?_
    refine gi_iconst (q := 253) (v := 0) C (dm_Bu_putShape 52 rfl) rfl (by decide) ?_
    refine gi_callv 1 (q := 256) C (dm_Bu_putShape 53 rfl) rfl my_Bu_putKind lk_Bu_134 im_Bu_putKind rfl (c_Bu_putKind false x hx Q) Q.ob rfl rfl ⟨(Nat.le_of_ble_eq_true rfl), (Nat.le_of_ble_eq_true rfl)⟩ (Nat.le_of_ble_eq_true rfl) ⟨(Nat.le_of_ble_eq_true rfl), (Nat.le_of_ble_eq_true rfl)⟩ (fun r253 n253 h253 e253 => ?_)
    obtain ⟨rfl, rfl, Q253⟩ := e253
    rw [show ptS false x = ptP P m 30 aa x from rfl] at Q253
    have I9 := IX false
    rw [show ptS false x = ptP P m 30 aa x from rfl] at I9
    refine gi_goto (tgt := 276) C (dm_Bu_putShape 54 rfl) (by decide) ?_
    refine gi_vret C hr (dm_Bu_putShape 64 rfl) ?_
    exact ⟨rfl, rfl, Q253, I9⟩
  · refine gi_tableIn (off := 258) (tgt := 259) C (dm_Bu_putShape 1 rfl) (by decide) (by decide) rfl (by decide) ?_
    refine gi_iload_n (q := 260) (i := 2) C (dm_Bu_putShape 55 rfl) rfl rfl rfl ?_
    refine gi_bipush (q := 262) (v := 7) C (dm_Bu_putShape 56 rfl) rfl (by decide) ?_
    refine gi_icmp_lt (q := 265) (tgt := 276) C (dm_Bu_putShape 57 rfl) rfl (by decide) (fun c262 => ?_) (fun c262 => ?_)
    · exact absurd c262 (by decide)
    · refine gi_iload_n (q := 266) (i := 2) C (dm_Bu_putShape 58 rfl) rfl rfl rfl ?_
      refine gi_bipush (q := 268) (v := 18) C (dm_Bu_putShape 59 rfl) rfl (by decide) ?_
      refine gi_icmp_gt (q := 271) (tgt := 276) C (dm_Bu_putShape 60 rfl) rfl (by decide) (fun c268 => ?_) (fun c268 => ?_)
      · refine gi_vret C hr (dm_Bu_putShape 64 rfl) ?_
        have ep : ptP P m 31 aa x = x := rfl
        rw [ep, hx.up]
        exact ⟨rfl, rfl, Q, hx⟩
      · exact absurd (show (18 : Int32) < nI 31 by decide) c268
  · refine gi_tableIn (off := 215) (tgt := 216) C (dm_Bu_putShape 1 rfl) (by decide) (by decide) rfl (by decide) ?_
    have od := hod.2.2.1 rfl
    have av := nn_nI (od).1
    rw [← haa] at av
    rw [av.1]
    have ha : aa < k := by omega
    have wa := wf_ar W ha
    refine gi_aload_n (q := 217) (i := 0) C (dm_Bu_putShape 34 rfl) rfl rfl rfl ?_
    refine gi_get (q := 220) C (dm_Bu_putShape 35 rfl) rfl fl_Bu_34 Q.ob rfl ?_
    refine gi_iload_n (q := 221) (i := 3) C (dm_Bu_putShape 36 rfl) rfl rfl rfl ?_
    refine gi_callv 1 (q := 224) C (dm_Bu_putShape 37 rfl) rfl my_Pr_resultSort lk_Bu_125 im_Pr_resultSort rfl (q_res W ha HP) HP.1 rfl rfl ⟨(Nat.le_of_ble_eq_true rfl), (Nat.le_of_ble_eq_true rfl)⟩ (Nat.le_of_ble_eq_true rfl) ⟨(Nat.le_of_ble_eq_true rfl), (Nat.le_of_ble_eq_true rfl)⟩ (fun r221 n221 h221 e221 => ?_)
    obtain ⟨rfl, q221, u221⟩ := e221
    rw [q221, u221]
    refine gi_if_eq (q := 227) (tgt := 276) C (dm_Bu_putShape 38 rfl) rfl (by decide) (fun c224 => ?_) (fun c224 => ?_)
    · have r0 : pN P 4 aa = 0 := (nI_eq (b := 0) (by omega) (by omega)).mp c224
      have ep : ptP P m 32 aa x = x := by
        show (if pN P 4 aa = 0 then x else _) = _
        rw [if_pos r0]
      rw [ep, hx.up]
      refine gi_vret C hr (dm_Bu_putShape 64 rfl) ?_
      exact ⟨rfl, rfl, Q, hx⟩
    · have r0 : ¬ pN P 4 aa = 0 := fun z => c224 (by rw [z]; rfl)
      refine gi_aload_n (q := 228) (i := 0) C (dm_Bu_putShape 39 rfl) rfl rfl rfl ?_
      refine gi_aload_n (q := 229) (i := 0) C (dm_Bu_putShape 40 rfl) rfl rfl rfl ?_
      refine gi_get (q := 232) C (dm_Bu_putShape 41 rfl) rfl fl_Bu_34 Q.ob rfl ?_
      refine gi_iload_n (q := 233) (i := 3) C (dm_Bu_putShape 42 rfl) rfl rfl rfl ?_
      refine gi_callv 1 (q := 236) C (dm_Bu_putShape 43 rfl) rfl my_Pr_resultSort lk_Bu_125 im_Pr_resultSort rfl (q_res W ha HP) HP.1 rfl rfl ⟨(Nat.le_of_ble_eq_true rfl), (Nat.le_of_ble_eq_true rfl)⟩ (Nat.le_of_ble_eq_true rfl) ⟨(Nat.le_of_ble_eq_true rfl), (Nat.le_of_ble_eq_true rfl)⟩ (fun r233 n233 h233 e233 => ?_)
      obtain ⟨rfl, q233, u233⟩ := e233
      rw [q233, u233]
      refine gi_iconst (q := 237) (v := 2) C (dm_Bu_putShape 44 rfl) rfl (by decide) ?_
      refine gi_icmp_ne (q := 240) (tgt := 244) C (dm_Bu_putShape 45 rfl) rfl (by decide) (fun c237 => ?_) (fun c237 => ?_)
      · refine gi_iconst (q := 245) (v := 0) C (dm_Bu_putShape 48 rfl) rfl (by decide) ?_
        refine gi_callv 1 (q := 248) C (dm_Bu_putShape 49 rfl) rfl my_Bu_putKind lk_Bu_134 im_Bu_putKind rfl (c_Bu_putKind false x hx Q) Q.ob rfl rfl ⟨(Nat.le_of_ble_eq_true rfl), (Nat.le_of_ble_eq_true rfl)⟩ (Nat.le_of_ble_eq_true rfl) ⟨(Nat.le_of_ble_eq_true rfl), (Nat.le_of_ble_eq_true rfl)⟩ (fun r245 n245 h245 e245 => ?_)
        obtain ⟨rfl, rfl, Q245⟩ := e245
        have I9 := IX false
        refine gi_goto (tgt := 276) C (dm_Bu_putShape 50 rfl) (by decide) ?_
        refine gi_vret C hr (dm_Bu_putShape 64 rfl) ?_
        have ep : ptP P m 32 aa x = ptS false x := by
          show (if pN P 4 aa = 0 then x else ptS (decide (pN P 4 aa = 2)) x) = _
          rw [if_neg r0, decide_eq_false (fun z => c237 (by rw [z]; rfl))]
        rw [ep]
        exact ⟨rfl, rfl, Q245, I9⟩
      · refine gi_iconst (q := 241) (v := 1) C (dm_Bu_putShape 46 rfl) rfl (by decide) ?_
        refine gi_goto (tgt := 245) C (dm_Bu_putShape 47 rfl) (by decide) ?_
        refine gi_callv 1 (q := 248) C (dm_Bu_putShape 49 rfl) rfl my_Bu_putKind lk_Bu_134 im_Bu_putKind rfl (c_Bu_putKind true x hx Q) Q.ob rfl rfl ⟨(Nat.le_of_ble_eq_true rfl), (Nat.le_of_ble_eq_true rfl)⟩ (Nat.le_of_ble_eq_true rfl) ⟨(Nat.le_of_ble_eq_true rfl), (Nat.le_of_ble_eq_true rfl)⟩ (fun r245 n245 h245 e245 => ?_)
        obtain ⟨rfl, rfl, Q245⟩ := e245
        have I9 := IX true
        refine gi_goto (tgt := 276) C (dm_Bu_putShape 50 rfl) (by decide) ?_
        refine gi_vret C hr (dm_Bu_putShape 64 rfl) ?_
        have ep : ptP P m 32 aa x = ptS true x := by
          show (if pN P 4 aa = 0 then x else ptS (decide (pN P 4 aa = 2)) x) = _
          rw [if_neg r0, decide_eq_true ((nI_eq (b := 2) (by omega) (by omega)).mp c237)]
        rw [ep]
        exact ⟨rfl, rfl, Q245, I9⟩
  · refine gi_tableIn (off := 258) (tgt := 259) C (dm_Bu_putShape 1 rfl) (by decide) (by decide) rfl (by decide) ?_
    refine gi_iload_n (q := 260) (i := 2) C (dm_Bu_putShape 55 rfl) rfl rfl rfl ?_
    refine gi_bipush (q := 262) (v := 7) C (dm_Bu_putShape 56 rfl) rfl (by decide) ?_
    refine gi_icmp_lt (q := 265) (tgt := 276) C (dm_Bu_putShape 57 rfl) rfl (by decide) (fun c262 => ?_) (fun c262 => ?_)
    · exact absurd c262 (by decide)
    · refine gi_iload_n (q := 266) (i := 2) C (dm_Bu_putShape 58 rfl) rfl rfl rfl ?_
      refine gi_bipush (q := 268) (v := 18) C (dm_Bu_putShape 59 rfl) rfl (by decide) ?_
      refine gi_icmp_gt (q := 271) (tgt := 276) C (dm_Bu_putShape 60 rfl) rfl (by decide) (fun c268 => ?_) (fun c268 => ?_)
      · refine gi_vret C hr (dm_Bu_putShape 64 rfl) ?_
        have ep : ptP P m 33 aa x = x := rfl
        rw [ep, hx.up]
        exact ⟨rfl, rfl, Q, hx⟩
      · exact absurd (show (18 : Int32) < nI 33 by decide) c268
  · refine gi_tableIn (off := 250) (tgt := 251) C (dm_Bu_putShape 1 rfl) (by decide) (by decide) rfl (by decide) ?_
    refine gi_aload_n (q := 252) (i := 0) C (dm_Bu_putShape 51 rfl) rfl rfl rfl ?_
    refine gi_iconst (q := 253) (v := 0) C (dm_Bu_putShape 52 rfl) rfl (by decide) ?_
    refine gi_callv 1 (q := 256) C (dm_Bu_putShape 53 rfl) rfl my_Bu_putKind lk_Bu_134 im_Bu_putKind rfl (c_Bu_putKind false x hx Q) Q.ob rfl rfl ⟨(Nat.le_of_ble_eq_true rfl), (Nat.le_of_ble_eq_true rfl)⟩ (Nat.le_of_ble_eq_true rfl) ⟨(Nat.le_of_ble_eq_true rfl), (Nat.le_of_ble_eq_true rfl)⟩ (fun r253 n253 h253 e253 => ?_)
    obtain ⟨rfl, rfl, Q253⟩ := e253
    rw [show ptS false x = ptP P m 34 aa x from rfl] at Q253
    have I9 := IX false
    rw [show ptS false x = ptP P m 34 aa x from rfl] at I9
    refine gi_goto (tgt := 276) C (dm_Bu_putShape 54 rfl) (by decide) ?_
    refine gi_vret C hr (dm_Bu_putShape 64 rfl) ?_
    exact ⟨rfl, rfl, Q253, I9⟩
  · refine gi_tableOut (tgt := 259) C (dm_Bu_putShape 1 rfl) (Or.inr (by decide)) (by decide) ?_
    refine gi_iload_n (q := 260) (i := 2) C (dm_Bu_putShape 55 rfl) rfl rfl rfl ?_
    refine gi_bipush (q := 262) (v := 7) C (dm_Bu_putShape 56 rfl) rfl (by decide) ?_
    refine gi_icmp_lt (q := 265) (tgt := 276) C (dm_Bu_putShape 57 rfl) rfl (by decide) (fun c262 => ?_) (fun c262 => ?_)
    · exact absurd c262 (by decide)
    · refine gi_iload_n (q := 266) (i := 2) C (dm_Bu_putShape 58 rfl) rfl rfl rfl ?_
      refine gi_bipush (q := 268) (v := 18) C (dm_Bu_putShape 59 rfl) rfl (by decide) ?_
      refine gi_icmp_gt (q := 271) (tgt := 276) C (dm_Bu_putShape 60 rfl) rfl (by decide) (fun c268 => ?_) (fun c268 => ?_)
      · refine gi_vret C hr (dm_Bu_putShape 64 rfl) ?_
        have ep : ptP P m 35 aa x = x := rfl
        rw [ep, hx.up]
        exact ⟨rfl, rfl, Q, hx⟩
      · exact absurd (show (18 : Int32) < nI 35 by decide) c268
end BU2
