-- needs: 73 46
section ST4
variable {l : Launch} {V : gi_V} {n : Nat} {h h' h0 : gi_H} {a pr bu fr to k m md : Nat} {P : Pm} {S : Nat → Int32} {x y nx ny ar ou be ab : mV} {Wk Wy En Lo : mR} {F : Fa} {Φ : Nat → mR} {T : Nat → Ty} {wd : Nat → Bool} {cb : Bool}
def moveS (c : Int32) (o n : Nat) (f : Nat → Sl) : Nat × (Nat → Sl) :=
  if o = 0 then (n + 1, upF f n (.inl (c.toInt, c.toInt, 0), -1))
  else if o = 1 then (n + 1, upF f n ((f c.toNatClampNeg).1, c))
  else if o = 2 then (n - 1, dropF (n - 1) (upF f c.toNatClampNeg ((f (n - 1)).1, (f c.toNatClampNeg).2)) c)
  else if o = 3 then (n + 1, upF f n (.inr (0, true), -1))
  else if o = 4 then (n - 1, f)
  else if o = 5 then (n + 1, upF f n (f (n - 1)))
  else (n, upF (upF f (n - 1) (f (n - 2))) (n - 2) (f (n - 1)))
def moveOk (c : Int32) (o n : Nat) : Prop := n ≤ 14 ∧ ((o = 0 ∨ o = 1 ∨ o = 3 ∨ o = 5) → n < 14) ∧ (o = 1 → ∃ j, c = nI j ∧ j < n) ∧ (o = 2 → 1 ≤ n ∧ ∃ j, c = nI j ∧ j < n - 1) ∧ ((o = 4 ∨ o = 5) → 1 ≤ n) ∧ (o = 6 → 2 ≤ n)
set_option maxHeartbeats 4000000 in
set_option maxRecDepth 100000 in
theorem c_St_move (o n0 : Nat) (c : Int32) (f : Nat → Sl) (Q : stO a pr bu fr to h0 S x y nx ny ar ou be ab Wk Wy En Lo h) (ho6 : o ≤ 6) (G : isG Wk n0 f) (mk : moveOk c o n0) : gi_T l V y_St_move b_St_move 4 (some .boolean) 3 62 0 0 [.ref a, .int (nI o), .int c] n h (fun v n' h' => v = some (.int 1) ∧ n' = n ∧ ∃ x' Wk', stO a pr bu fr to h0 S x' y nx ny ar ou be ab Wk' Wy En Lo h' ∧ isG Wk' (moveS c o n0 f).1 (moveS c o n0 f).2) := by
  refine gi_enter (by decide) (Nat.le_of_ble_eq_true rfl) ?_
  intro _ _ _ _ _ _ _ _ C hr hnm
  have n14 := mk.1
  refine gi_iload_n (q := 1) (i := 1) C (dm_St_move 0 rfl) rfl rfl rfl ?_
  refine gi_switch (lo := 0) (hi := 5) (by decide) (fun c1 => ?_) (fun i1 u1 v1 c1 => ?_)
  · refine gi_tableOut (tgt := 211) C (dm_St_move 1 rfl) c1 (by decide) ?_
    have ho : o = 6 := by
      have t := nI_toInt (n := o) (by omega)
      rw [t] at c1
      omega
    subst ho
    have h6 := mk.2.2.2.2.2 rfl
    refine gi_aload_n (q := 212) (i := 0) C (dm_St_move 81 rfl) rfl rfl rfl ?_
    refine gi_get (q := 215) C (dm_St_move 82 rfl) rfl fl_St_23 Q.ob rfl ?_
    refine gi_callv 0 (q := 218) C (dm_St_move 83 rfl) rfl my_Ro_swapTop lk_St_205 im_Ro_swapTop rfl (c_Ro_swapTop (s := n0) (by omega) h6 mk.1 Q.wk G.1) Q.wk.1 rfl rfl ⟨(Nat.le_of_ble_eq_true rfl), (Nat.le_of_ble_eq_true rfl)⟩ (Nat.le_of_ble_eq_true rfl) ⟨(Nat.le_of_ble_eq_true rfl), (Nat.le_of_ble_eq_true rfl)⟩ (fun r215 n215 h215 e215 => ?_)
    obtain ⟨rfl, rfl, S215, O215⟩ := e215
    have Q215 := Q.rWk S215 O215
    refine gi_iconst (q := 219) (v := 1) C (dm_St_move 84 rfl) rfl (by decide) ?_
    refine gi_zret C hr (dm_St_move 85 rfl) rfl ?_
    exact ⟨rfl, rfl, x, _, Q215, G.swap h6⟩
  · have w1 : i1 = 0 ∨ i1 = 1 ∨ i1 = 2 ∨ i1 = 3 ∨ i1 = 4 ∨ i1 = 5 := by omega
    rcases w1 with rfl | rfl | rfl | rfl | rfl | rfl
    · refine gi_tableIn (off := 39) (tgt := 40) C (dm_St_move 1 rfl) (by decide) (by decide) rfl (by decide) ?_
      have ho : o = 0 := (nI_eq (b := 0) (by omega) (by omega)).mp c1
      subst ho
      have n1 : n0 < 14 := mk.2.1 (by omega)
      
      refine gi_aload_n (q := 41) (i := 0) C (dm_St_move 2 rfl) rfl rfl rfl ?_
      refine gi_get (q := 44) C (dm_St_move 3 rfl) rfl fl_St_23 (by first | exact Q204.ob | exact Q197.ob | exact Q190.ob | exact Q183.ob | exact Q175.ob | exact Q168.ob | exact Q160.ob | exact Q145.ob | exact Q126.ob | exact Q116.ob | exact Q108.ob | exact Q92.ob | exact Q78.ob | exact Q70.ob | exact Q59.ob | exact Q44.ob | exact Q.ob) rfl ?_
      refine gi_callv 0 (q := 47) C (dm_St_move 4 rfl) rfl my_Ro_push lk_St_95 im_Ro_push rfl (c_Ro_push (s := n0) (by omega) (by omega) Q.wk G.1) Q.wk.1 rfl rfl ⟨(Nat.le_of_ble_eq_true rfl), (Nat.le_of_ble_eq_true rfl)⟩ (Nat.le_of_ble_eq_true rfl) ⟨(Nat.le_of_ble_eq_true rfl), (Nat.le_of_ble_eq_true rfl)⟩ (fun r44 n44 h44 e44 => ?_)
      obtain ⟨rfl, rfl, S44, O44⟩ := e44
      have Q44 := Q.rWk S44 O44
      have V44 := S44.2.2.2.1 (n0) (by omega)
      have va44 := V44.1
      have vb44 := V44.2.1
      refine gi_iload_n (q := 48) (i := 2) C (dm_St_move 5 rfl) rfl rfl rfl ?_
      refine gi_i2l (q := 49) C (dm_St_move 6 rfl) rfl ?_
      rw [eL_i]
      refine gi_callv 1 (q := 52) C (dm_St_move 7 rfl) rfl my_Va_beSingle lk_St_117 im_Va_beSingle rfl (c_Va_beSingle _ _ _ V44.2.2) V44.2.2 rfl rfl ⟨(Nat.le_of_ble_eq_true rfl), (Nat.le_of_ble_eq_true rfl)⟩ (Nat.le_of_ble_eq_true rfl) ⟨(Nat.le_of_ble_eq_true rfl), (Nat.le_of_ble_eq_true rfl)⟩ (fun r49 n49 h49 e49 => ?_)
      obtain ⟨rfl, rfl, rfl⟩ := e49
      refine gi_goto (tgt := 218) C (dm_St_move 8 rfl) (by decide) ?_
      refine gi_iconst (q := 219) (v := 1) C (dm_St_move 84 rfl) rfl (by decide) ?_
      refine gi_zret C hr (dm_St_move 85 rfl) rfl ?_
      exact ⟨rfl, rfl, x, _, Q44.rWk (S44.v (show n0 < 14 by omega) (sV (c.toInt, c.toInt, 0))) (outR.rf.up (by omega) vb44), G.push (.inl (c.toInt, c.toInt, 0)) (-1) _ _⟩
    · refine gi_tableIn (off := 54) (tgt := 55) C (dm_St_move 1 rfl) (by decide) (by decide) rfl (by decide) ?_
      have ho : o = 1 := (nI_eq (b := 1) (by omega) (by omega)).mp c1
      subst ho
      have n1 : n0 < 14 := mk.2.1 (by omega)
      obtain ⟨j, hj, hjn⟩ := mk.2.2.1 rfl
      subst hj
      refine gi_aload_n (q := 56) (i := 0) C (dm_St_move 9 rfl) rfl rfl rfl ?_
      refine gi_get (q := 59) C (dm_St_move 10 rfl) rfl fl_St_23 (by first | exact Q204.ob | exact Q197.ob | exact Q190.ob | exact Q183.ob | exact Q175.ob | exact Q168.ob | exact Q160.ob | exact Q145.ob | exact Q126.ob | exact Q116.ob | exact Q108.ob | exact Q92.ob | exact Q78.ob | exact Q70.ob | exact Q59.ob | exact Q44.ob | exact Q.ob) rfl ?_
      refine gi_callv 0 (q := 62) C (dm_St_move 11 rfl) rfl my_Ro_push lk_St_95 im_Ro_push rfl (c_Ro_push (s := n0) (by omega) (by omega) Q.wk G.1) Q.wk.1 rfl rfl ⟨(Nat.le_of_ble_eq_true rfl), (Nat.le_of_ble_eq_true rfl)⟩ (Nat.le_of_ble_eq_true rfl) ⟨(Nat.le_of_ble_eq_true rfl), (Nat.le_of_ble_eq_true rfl)⟩ (fun r59 n59 h59 e59 => ?_)
      obtain ⟨rfl, rfl, S59, O59⟩ := e59
      have Q59 := Q.rWk S59 O59
      have V59 := S59.2.2.2.1 (n0) (by omega)
      have va59 := V59.1
      have vb59 := V59.2.1
      refine gi_aload_n (q := 63) (i := 0) C (dm_St_move 12 rfl) rfl rfl rfl ?_
      refine gi_get (q := 66) C (dm_St_move 13 rfl) rfl fl_St_23 (by first | exact Q204.ob | exact Q197.ob | exact Q190.ob | exact Q183.ob | exact Q175.ob | exact Q168.ob | exact Q160.ob | exact Q145.ob | exact Q126.ob | exact Q116.ob | exact Q108.ob | exact Q92.ob | exact Q78.ob | exact Q70.ob | exact Q59.ob | exact Q44.ob | exact Q.ob) rfl ?_
      refine gi_iload_n (q := 67) (i := 2) C (dm_St_move 14 rfl) rfl rfl rfl ?_
      refine gi_callv 1 (q := 70) C (dm_St_move 15 rfl) rfl my_Ro_valueAt lk_St_127 im_Ro_valueAt rfl (c_Ro_valueAt (j := j) (by omega) (by omega) S59) S59.1 rfl rfl ⟨(Nat.le_of_ble_eq_true rfl), (Nat.le_of_ble_eq_true rfl)⟩ (Nat.le_of_ble_eq_true rfl) ⟨(Nat.le_of_ble_eq_true rfl), (Nat.le_of_ble_eq_true rfl)⟩ (fun r67 n67 h67 e67 => ?_)
      obtain ⟨rfl, q67, u67⟩ := e67
      rw [q67, u67]
      refine gi_callv 1 (q := 73) C (dm_St_move 16 rfl) rfl my_Va_copy lk_St_99 im_Va_copy rfl (c_Va_copy _ _ _ _ V59.2.2 (S59.2.2.2.1 j (by omega)).2.2 (fun z => by have := S59.2.2.2.2 n0 j (by omega) (by omega) z; omega) (G.wf j hjn)) V59.2.2 rfl rfl ⟨(Nat.le_of_ble_eq_true rfl), (Nat.le_of_ble_eq_true rfl)⟩ (Nat.le_of_ble_eq_true rfl) ⟨(Nat.le_of_ble_eq_true rfl), (Nat.le_of_ble_eq_true rfl)⟩ (fun r70 n70 h70 e70 => ?_)
      obtain ⟨rfl, rfl, rfl⟩ := e70
      have S70 := S59.v (show n0 < 14 by omega) (Wk.2.2.2.2.1 j)
      have O70 := outR.rf.up (h := h59) (k := 14) (x := eV (Wk.2.2.2.2.1 j)) (show a + 4 ≤ _ by omega) vb59
      have Q70 := Q59.rWk S70 O70
      refine gi_aload_n (q := 74) (i := 0) C (dm_St_move 17 rfl) rfl rfl rfl ?_
      refine gi_get (q := 77) C (dm_St_move 18 rfl) rfl fl_St_23 (by first | exact Q204.ob | exact Q197.ob | exact Q190.ob | exact Q183.ob | exact Q175.ob | exact Q168.ob | exact Q160.ob | exact Q145.ob | exact Q126.ob | exact Q116.ob | exact Q108.ob | exact Q92.ob | exact Q78.ob | exact Q70.ob | exact Q59.ob | exact Q44.ob | exact Q.ob) rfl ?_
      refine gi_iload_n (q := 78) (i := 2) C (dm_St_move 19 rfl) rfl rfl rfl ?_
      refine gi_callv 1 (q := 81) C (dm_St_move 20 rfl) rfl my_Ro_markTop lk_St_195 im_Ro_markTop rfl (c_Ro_markTop (nI j) (s := n0 + 1) (by omega) (by omega) (by omega) S70 rfl) S70.1 rfl rfl ⟨(Nat.le_of_ble_eq_true rfl), (Nat.le_of_ble_eq_true rfl)⟩ (Nat.le_of_ble_eq_true rfl) ⟨(Nat.le_of_ble_eq_true rfl), (Nat.le_of_ble_eq_true rfl)⟩ (fun r78 n78 h78 e78 => ?_)
      obtain ⟨rfl, rfl, S78, O78⟩ := e78
      have Q78 := Q70.rWk S78 O78
      refine gi_goto (tgt := 218) C (dm_St_move 21 rfl) (by decide) ?_
      refine gi_iconst (q := 219) (v := 1) C (dm_St_move 84 rfl) rfl (by decide) ?_
      refine gi_zret C hr (dm_St_move 85 rfl) rfl ?_
      refine ⟨rfl, rfl, x, _, Q78, ?_⟩
      have t := (G.push (f j).1 (-1) Wk.2.2.1 Wk.2.2.2.1).mark (j := n0) (nI j)
      rw [← (G.2 j hjn).1] at t
      show isG _ (n0 + 1) (upF f n0 ((f (nI j).toNatClampNeg).1, nI j))
      rw [nI_clamp (by omega)]
      refine t.ext (fun i hi => ?_)
      by_cases z : i = n0
      · subst z
        rw [upF_self, upF_self, upF_self]
      · rw [upF_ne z, upF_ne z, upF_ne z]
    · refine gi_tableIn (off := 83) (tgt := 84) C (dm_St_move 1 rfl) (by decide) (by decide) rfl (by decide) ?_
      have ho : o = 2 := (nI_eq (b := 2) (by omega) (by omega)).mp c1
      subst ho
      obtain ⟨h1n, j, hj, hjn⟩ := mk.2.2.2.1 rfl
      subst hj
      refine gi_aload_n (q := 85) (i := 0) C (dm_St_move 22 rfl) rfl rfl rfl ?_
      refine gi_get (q := 88) C (dm_St_move 23 rfl) rfl fl_St_23 (by first | exact Q204.ob | exact Q197.ob | exact Q190.ob | exact Q183.ob | exact Q175.ob | exact Q168.ob | exact Q160.ob | exact Q145.ob | exact Q126.ob | exact Q116.ob | exact Q108.ob | exact Q92.ob | exact Q78.ob | exact Q70.ob | exact Q59.ob | exact Q44.ob | exact Q.ob) rfl ?_
      refine gi_aload_n (q := 89) (i := 0) C (dm_St_move 24 rfl) rfl rfl rfl ?_
      refine gi_get (q := 92) C (dm_St_move 25 rfl) rfl fl_St_39 (by first | exact Q204.ob | exact Q197.ob | exact Q190.ob | exact Q183.ob | exact Q175.ob | exact Q168.ob | exact Q160.ob | exact Q145.ob | exact Q126.ob | exact Q116.ob | exact Q108.ob | exact Q92.ob | exact Q78.ob | exact Q70.ob | exact Q59.ob | exact Q44.ob | exact Q.ob) rfl ?_
      refine gi_callv 1 (q := 95) C (dm_St_move 26 rfl) rfl my_Ro_pop lk_St_198 im_Ro_pop rfl (c_Ro_pop (a + 59) x (by omega) (by omega) (by omega) Q.wk G.1 (G.wf _ (by omega)) (by omega) Q.vx) Q.wk.1 rfl rfl ⟨(Nat.le_of_ble_eq_true rfl), (Nat.le_of_ble_eq_true rfl)⟩ (Nat.le_of_ble_eq_true rfl) ⟨(Nat.le_of_ble_eq_true rfl), (Nat.le_of_ble_eq_true rfl)⟩ (fun r92 n92 h92 e92 => ?_)
      obtain ⟨rfl, rfl, S92, X92, O92⟩ := e92
      have Q92 := Q.ox S92 X92 O92
      have G92 := G.pop Wk.2.2.1 Wk.2.2.2.1 (m := n0 - 1) (by omega)
      have ex := (G.2 (n0 - 1) (by omega)).1
      have em := (G.2 (n0 - 1) (by omega)).2
      refine gi_pop (q := 96) C (dm_St_move 27 rfl) rfl rfl ?_
      refine gi_aload_n (q := 97) (i := 0) C (dm_St_move 28 rfl) rfl rfl rfl ?_
      refine gi_get (q := 100) C (dm_St_move 29 rfl) rfl fl_St_23 (by first | exact Q204.ob | exact Q197.ob | exact Q190.ob | exact Q183.ob | exact Q175.ob | exact Q168.ob | exact Q160.ob | exact Q145.ob | exact Q126.ob | exact Q116.ob | exact Q108.ob | exact Q92.ob | exact Q78.ob | exact Q70.ob | exact Q59.ob | exact Q44.ob | exact Q.ob) rfl ?_
      refine gi_iload_n (q := 101) (i := 2) C (dm_St_move 30 rfl) rfl rfl rfl ?_
      refine gi_callv 1 (q := 104) C (dm_St_move 31 rfl) rfl my_Ro_valueAt lk_St_127 im_Ro_valueAt rfl (c_Ro_valueAt (j := j) (by omega) (by omega) Q92.wk) Q92.wk.1 rfl rfl ⟨(Nat.le_of_ble_eq_true rfl), (Nat.le_of_ble_eq_true rfl)⟩ (Nat.le_of_ble_eq_true rfl) ⟨(Nat.le_of_ble_eq_true rfl), (Nat.le_of_ble_eq_true rfl)⟩ (fun r101 n101 h101 e101 => ?_)
      obtain ⟨rfl, q101, u101⟩ := e101
      rw [q101, u101]
      refine gi_aload_n (q := 105) (i := 0) C (dm_St_move 32 rfl) rfl rfl rfl ?_
      refine gi_get (q := 108) C (dm_St_move 33 rfl) rfl fl_St_39 (by first | exact Q204.ob | exact Q197.ob | exact Q190.ob | exact Q183.ob | exact Q175.ob | exact Q168.ob | exact Q160.ob | exact Q145.ob | exact Q126.ob | exact Q116.ob | exact Q108.ob | exact Q92.ob | exact Q78.ob | exact Q70.ob | exact Q59.ob | exact Q44.ob | exact Q.ob) rfl ?_
      refine gi_callv 1 (q := 111) C (dm_St_move 34 rfl) rfl my_Va_copy lk_St_99 im_Va_copy rfl (c_Va_copy _ (a + 59) _ _ (Q92.wk.2.2.2.1 j (by omega)).2.2 Q92.vx (by have := Q92.wk.2.2.2.1 j (by omega); omega) (G.wf _ (by omega))) (Q92.wk.2.2.2.1 j (by omega)).2.2 rfl rfl ⟨(Nat.le_of_ble_eq_true rfl), (Nat.le_of_ble_eq_true rfl)⟩ (Nat.le_of_ble_eq_true rfl) ⟨(Nat.le_of_ble_eq_true rfl), (Nat.le_of_ble_eq_true rfl)⟩ (fun r108 n108 h108 e108 => ?_)
      obtain ⟨rfl, rfl, rfl⟩ := e108
      have W92 := Q92.wk.2.2.2.1 j (by omega)
      have wa := W92.1
      have wb := W92.2.1
      have S108 := Q92.wk.v (show j < 14 by omega) (Wk.2.2.2.2.1 (n0 - 1))
      have O108 := outR.rf.up (h := h92) (k := 14) (x := eV (Wk.2.2.2.2.1 (n0 - 1))) (show a + 4 ≤ _ by omega) wb
      have Q108 := Q92.rWk S108 O108
      refine gi_aload_n (q := 112) (i := 0) C (dm_St_move 35 rfl) rfl rfl rfl ?_
      refine gi_get (q := 115) C (dm_St_move 36 rfl) rfl fl_St_23 (by first | exact Q204.ob | exact Q197.ob | exact Q190.ob | exact Q183.ob | exact Q175.ob | exact Q168.ob | exact Q160.ob | exact Q145.ob | exact Q126.ob | exact Q116.ob | exact Q108.ob | exact Q92.ob | exact Q78.ob | exact Q70.ob | exact Q59.ob | exact Q44.ob | exact Q.ob) rfl ?_
      refine gi_iload_n (q := 116) (i := 2) C (dm_St_move 37 rfl) rfl rfl rfl ?_
      refine gi_callv 1 (q := 119) C (dm_St_move 38 rfl) rfl my_Ro_dropMarks lk_St_202 im_Ro_dropMarks rfl (c_Ro_dropMarks (nI j) (s := n0 - 1) (by omega) (by omega) Q108.wk rfl) Q108.wk.1 rfl rfl ⟨(Nat.le_of_ble_eq_true rfl), (Nat.le_of_ble_eq_true rfl)⟩ (Nat.le_of_ble_eq_true rfl) ⟨(Nat.le_of_ble_eq_true rfl), (Nat.le_of_ble_eq_true rfl)⟩ (fun r116 n116 h116 e116 => ?_)
      obtain ⟨rfl, rfl, S116, O116⟩ := e116
      have Q116 := Q108.rWk S116 O116
      refine gi_goto (tgt := 218) C (dm_St_move 39 rfl) (by decide) ?_
      refine gi_iconst (q := 219) (v := 1) C (dm_St_move 84 rfl) rfl (by decide) ?_
      refine gi_zret C hr (dm_St_move 85 rfl) rfl ?_
      refine ⟨rfl, rfl, _, _, Q116, ?_⟩
      have t := (G92.val (j := j) (f (n0 - 1)).1).drop (nI j)
      rw [← ex] at t
      show isG _ (n0 - 1) (dropF (n0 - 1) (upF f (nI j).toNatClampNeg ((f (n0 - 1)).1, (f (nI j).toNatClampNeg).2)) (nI j))
      rw [nI_clamp (by omega)]
      exact t
    · refine gi_tableIn (off := 121) (tgt := 122) C (dm_St_move 1 rfl) (by decide) (by decide) rfl (by decide) ?_
      have ho : o = 3 := (nI_eq (b := 3) (by omega) (by omega)).mp c1
      subst ho
      have n1 : n0 < 14 := mk.2.1 (by omega)
      
      refine gi_aload_n (q := 123) (i := 0) C (dm_St_move 40 rfl) rfl rfl rfl ?_
      refine gi_get (q := 126) C (dm_St_move 41 rfl) rfl fl_St_23 (by first | exact Q204.ob | exact Q197.ob | exact Q190.ob | exact Q183.ob | exact Q175.ob | exact Q168.ob | exact Q160.ob | exact Q145.ob | exact Q126.ob | exact Q116.ob | exact Q108.ob | exact Q92.ob | exact Q78.ob | exact Q70.ob | exact Q59.ob | exact Q44.ob | exact Q.ob) rfl ?_
      refine gi_callv 0 (q := 129) C (dm_St_move 42 rfl) rfl my_Ro_push lk_St_95 im_Ro_push rfl (c_Ro_push (s := n0) (by omega) (by omega) Q.wk G.1) Q.wk.1 rfl rfl ⟨(Nat.le_of_ble_eq_true rfl), (Nat.le_of_ble_eq_true rfl)⟩ (Nat.le_of_ble_eq_true rfl) ⟨(Nat.le_of_ble_eq_true rfl), (Nat.le_of_ble_eq_true rfl)⟩ (fun r126 n126 h126 e126 => ?_)
      obtain ⟨rfl, rfl, S126, O126⟩ := e126
      have Q126 := Q.rWk S126 O126
      have V126 := S126.2.2.2.1 (n0) (by omega)
      have va126 := V126.1
      have vb126 := V126.2.1
      refine gi_iconst (q := 130) (v := 0) C (dm_St_move 43 rfl) rfl (by decide) ?_
      refine gi_iconst (q := 131) (v := 1) C (dm_St_move 44 rfl) rfl (by decide) ?_
      refine gi_callv 2 (q := 134) C (dm_St_move 45 rfl) rfl my_Va_beSet lk_St_113 im_Va_beSet rfl (c_Va_beSet _ _ 0 true V126.2.2) V126.2.2 rfl rfl ⟨(Nat.le_of_ble_eq_true rfl), (Nat.le_of_ble_eq_true rfl)⟩ (Nat.le_of_ble_eq_true rfl) ⟨(Nat.le_of_ble_eq_true rfl), (Nat.le_of_ble_eq_true rfl)⟩ (fun r131 n131 h131 e131 => ?_)
      obtain ⟨rfl, rfl, rfl⟩ := e131
      refine gi_goto (tgt := 218) C (dm_St_move 46 rfl) (by decide) ?_
      refine gi_iconst (q := 219) (v := 1) C (dm_St_move 84 rfl) rfl (by decide) ?_
      refine gi_zret C hr (dm_St_move 85 rfl) rfl ?_
      exact ⟨rfl, rfl, x, _, Q126.rWk (S126.v (show n0 < 14 by omega) (tV 0 true)) (outR.rf.up (by omega) vb126), G.push (.inr (0, true)) (-1) _ _⟩
    · refine gi_tableIn (off := 136) (tgt := 137) C (dm_St_move 1 rfl) (by decide) (by decide) rfl (by decide) ?_
      have ho : o = 4 := (nI_eq (b := 4) (by omega) (by omega)).mp c1
      subst ho
      have h1n := mk.2.2.2.2.1 (Or.inl rfl)
      refine gi_aload_n (q := 138) (i := 0) C (dm_St_move 47 rfl) rfl rfl rfl ?_
      refine gi_get (q := 141) C (dm_St_move 48 rfl) rfl fl_St_23 (by first | exact Q204.ob | exact Q197.ob | exact Q190.ob | exact Q183.ob | exact Q175.ob | exact Q168.ob | exact Q160.ob | exact Q145.ob | exact Q126.ob | exact Q116.ob | exact Q108.ob | exact Q92.ob | exact Q78.ob | exact Q70.ob | exact Q59.ob | exact Q44.ob | exact Q.ob) rfl ?_
      refine gi_aload_n (q := 142) (i := 0) C (dm_St_move 49 rfl) rfl rfl rfl ?_
      refine gi_get (q := 145) C (dm_St_move 50 rfl) rfl fl_St_39 (by first | exact Q204.ob | exact Q197.ob | exact Q190.ob | exact Q183.ob | exact Q175.ob | exact Q168.ob | exact Q160.ob | exact Q145.ob | exact Q126.ob | exact Q116.ob | exact Q108.ob | exact Q92.ob | exact Q78.ob | exact Q70.ob | exact Q59.ob | exact Q44.ob | exact Q.ob) rfl ?_
      refine gi_callv 1 (q := 148) C (dm_St_move 51 rfl) rfl my_Ro_pop lk_St_198 im_Ro_pop rfl (c_Ro_pop (a + 59) x (by omega) (by omega) (by omega) Q.wk G.1 (G.wf _ (by omega)) (by omega) Q.vx) Q.wk.1 rfl rfl ⟨(Nat.le_of_ble_eq_true rfl), (Nat.le_of_ble_eq_true rfl)⟩ (Nat.le_of_ble_eq_true rfl) ⟨(Nat.le_of_ble_eq_true rfl), (Nat.le_of_ble_eq_true rfl)⟩ (fun r145 n145 h145 e145 => ?_)
      obtain ⟨rfl, rfl, S145, X145, O145⟩ := e145
      have Q145 := Q.ox S145 X145 O145
      have G145 := G.pop Wk.2.2.1 Wk.2.2.2.1 (m := n0 - 1) (by omega)
      have ex := (G.2 (n0 - 1) (by omega)).1
      have em := (G.2 (n0 - 1) (by omega)).2
      refine gi_pop (q := 149) C (dm_St_move 52 rfl) rfl rfl ?_
      refine gi_goto (tgt := 218) C (dm_St_move 53 rfl) (by decide) ?_
      refine gi_iconst (q := 219) (v := 1) C (dm_St_move 84 rfl) rfl (by decide) ?_
      refine gi_zret C hr (dm_St_move 85 rfl) rfl ?_
      exact ⟨rfl, rfl, _, _, Q145, G145⟩
    · refine gi_tableIn (off := 151) (tgt := 152) C (dm_St_move 1 rfl) (by decide) (by decide) rfl (by decide) ?_
      have ho : o = 5 := (nI_eq (b := 5) (by omega) (by omega)).mp c1
      subst ho
      have n1 : n0 < 14 := mk.2.1 (by omega)
      have h1n := mk.2.2.2.2.1 (Or.inr rfl)
      refine gi_aload_n (q := 153) (i := 0) C (dm_St_move 54 rfl) rfl rfl rfl ?_
      refine gi_get (q := 156) C (dm_St_move 55 rfl) rfl fl_St_23 (by first | exact Q204.ob | exact Q197.ob | exact Q190.ob | exact Q183.ob | exact Q175.ob | exact Q168.ob | exact Q160.ob | exact Q145.ob | exact Q126.ob | exact Q116.ob | exact Q108.ob | exact Q92.ob | exact Q78.ob | exact Q70.ob | exact Q59.ob | exact Q44.ob | exact Q.ob) rfl ?_
      refine gi_aload_n (q := 157) (i := 0) C (dm_St_move 56 rfl) rfl rfl rfl ?_
      refine gi_get (q := 160) C (dm_St_move 57 rfl) rfl fl_St_39 (by first | exact Q204.ob | exact Q197.ob | exact Q190.ob | exact Q183.ob | exact Q175.ob | exact Q168.ob | exact Q160.ob | exact Q145.ob | exact Q126.ob | exact Q116.ob | exact Q108.ob | exact Q92.ob | exact Q78.ob | exact Q70.ob | exact Q59.ob | exact Q44.ob | exact Q.ob) rfl ?_
      refine gi_callv 1 (q := 163) C (dm_St_move 58 rfl) rfl my_Ro_pop lk_St_198 im_Ro_pop rfl (c_Ro_pop (a + 59) x (by omega) (by omega) (by omega) Q.wk G.1 (G.wf _ (by omega)) (by omega) Q.vx) Q.wk.1 rfl rfl ⟨(Nat.le_of_ble_eq_true rfl), (Nat.le_of_ble_eq_true rfl)⟩ (Nat.le_of_ble_eq_true rfl) ⟨(Nat.le_of_ble_eq_true rfl), (Nat.le_of_ble_eq_true rfl)⟩ (fun r160 n160 h160 e160 => ?_)
      obtain ⟨rfl, rfl, S160, X160, O160⟩ := e160
      have Q160 := Q.ox S160 X160 O160
      have G160 := G.pop Wk.2.2.1 Wk.2.2.2.1 (m := n0 - 1) (by omega)
      have ex := (G.2 (n0 - 1) (by omega)).1
      have em := (G.2 (n0 - 1) (by omega)).2
      refine gi_istore_n (q := 164) (i := 3) C (dm_St_move 59 rfl) rfl rfl (Nat.le_of_ble_eq_true rfl) ?_
      refine gi_aload_n (q := 165) (i := 0) C (dm_St_move 60 rfl) rfl rfl rfl ?_
      refine gi_get (q := 168) C (dm_St_move 61 rfl) rfl fl_St_23 (by first | exact Q204.ob | exact Q197.ob | exact Q190.ob | exact Q183.ob | exact Q175.ob | exact Q168.ob | exact Q160.ob | exact Q145.ob | exact Q126.ob | exact Q116.ob | exact Q108.ob | exact Q92.ob | exact Q78.ob | exact Q70.ob | exact Q59.ob | exact Q44.ob | exact Q.ob) rfl ?_
      refine gi_callv 0 (q := 171) C (dm_St_move 62 rfl) rfl my_Ro_push lk_St_95 im_Ro_push rfl (c_Ro_push (s := n0 - 1) (by omega) (by omega) Q160.wk G160.1) Q160.wk.1 rfl rfl ⟨(Nat.le_of_ble_eq_true rfl), (Nat.le_of_ble_eq_true rfl)⟩ (Nat.le_of_ble_eq_true rfl) ⟨(Nat.le_of_ble_eq_true rfl), (Nat.le_of_ble_eq_true rfl)⟩ (fun r168 n168 h168 e168 => ?_)
      obtain ⟨rfl, rfl, S168, O168⟩ := e168
      have Q168 := Q160.rWk S168 O168
      have V168 := S168.2.2.2.1 (n0 - 1) (by omega)
      have va168 := V168.1
      have vb168 := V168.2.1
      refine gi_aload_n (q := 172) (i := 0) C (dm_St_move 63 rfl) rfl rfl rfl ?_
      refine gi_get (q := 175) C (dm_St_move 64 rfl) rfl fl_St_39 (by first | exact Q204.ob | exact Q197.ob | exact Q190.ob | exact Q183.ob | exact Q175.ob | exact Q168.ob | exact Q160.ob | exact Q145.ob | exact Q126.ob | exact Q116.ob | exact Q108.ob | exact Q92.ob | exact Q78.ob | exact Q70.ob | exact Q59.ob | exact Q44.ob | exact Q.ob) rfl ?_
      refine gi_callv 1 (q := 178) C (dm_St_move 65 rfl) rfl my_Va_copy lk_St_99 im_Va_copy rfl (c_Va_copy _ (a + 59) _ _ V168.2.2 Q168.vx (by omega) (G.wf _ (by omega))) V168.2.2 rfl rfl ⟨(Nat.le_of_ble_eq_true rfl), (Nat.le_of_ble_eq_true rfl)⟩ (Nat.le_of_ble_eq_true rfl) ⟨(Nat.le_of_ble_eq_true rfl), (Nat.le_of_ble_eq_true rfl)⟩ (fun r175 n175 h175 e175 => ?_)
      obtain ⟨rfl, rfl, rfl⟩ := e175
      have S175 := S168.v (show n0 - 1 < 14 by omega) (Wk.2.2.2.2.1 (n0 - 1))
      have O175 := outR.rf.up (h := h168) (k := 14) (x := eV (Wk.2.2.2.2.1 (n0 - 1))) (show a + 4 ≤ _ by omega) vb168
      have Q175 := Q168.rWk S175 O175
      refine gi_aload_n (q := 179) (i := 0) C (dm_St_move 66 rfl) rfl rfl rfl ?_
      refine gi_get (q := 182) C (dm_St_move 67 rfl) rfl fl_St_23 (by first | exact Q204.ob | exact Q197.ob | exact Q190.ob | exact Q183.ob | exact Q175.ob | exact Q168.ob | exact Q160.ob | exact Q145.ob | exact Q126.ob | exact Q116.ob | exact Q108.ob | exact Q92.ob | exact Q78.ob | exact Q70.ob | exact Q59.ob | exact Q44.ob | exact Q.ob) rfl ?_
      refine gi_iload_n (q := 183) (i := 3) C (dm_St_move 68 rfl) rfl rfl rfl ?_
      refine gi_callv 1 (q := 186) C (dm_St_move 69 rfl) rfl my_Ro_markTop lk_St_195 im_Ro_markTop rfl (c_Ro_markTop (Wk.2.2.2.2.2 (n0 - 1)) (s := n0 - 1 + 1) (by omega) (by omega) (by omega) S175 rfl) S175.1 rfl rfl ⟨(Nat.le_of_ble_eq_true rfl), (Nat.le_of_ble_eq_true rfl)⟩ (Nat.le_of_ble_eq_true rfl) ⟨(Nat.le_of_ble_eq_true rfl), (Nat.le_of_ble_eq_true rfl)⟩ (fun r183 n183 h183 e183 => ?_)
      obtain ⟨rfl, rfl, S183, O183⟩ := e183
      have Q183 := Q175.rWk S183 O183
      rw [show n0 - 1 + 1 - 1 = n0 - 1 by omega] at Q183
      have G183 := (G160.push (f (n0 - 1)).1 (-1) Wk.2.2.1 Wk.2.2.2.1).mark (j := n0 - 1) (Wk.2.2.2.2.2 (n0 - 1))
      rw [← ex] at G183
      refine gi_aload_n (q := 187) (i := 0) C (dm_St_move 70 rfl) rfl rfl rfl ?_
      refine gi_get (q := 190) C (dm_St_move 71 rfl) rfl fl_St_23 (by first | exact Q204.ob | exact Q197.ob | exact Q190.ob | exact Q183.ob | exact Q175.ob | exact Q168.ob | exact Q160.ob | exact Q145.ob | exact Q126.ob | exact Q116.ob | exact Q108.ob | exact Q92.ob | exact Q78.ob | exact Q70.ob | exact Q59.ob | exact Q44.ob | exact Q.ob) rfl ?_
      refine gi_callv 0 (q := 193) C (dm_St_move 72 rfl) rfl my_Ro_push lk_St_95 im_Ro_push rfl (c_Ro_push (s := n0 - 1 + 1) (by omega) (by omega) Q183.wk G183.1) Q183.wk.1 rfl rfl ⟨(Nat.le_of_ble_eq_true rfl), (Nat.le_of_ble_eq_true rfl)⟩ (Nat.le_of_ble_eq_true rfl) ⟨(Nat.le_of_ble_eq_true rfl), (Nat.le_of_ble_eq_true rfl)⟩ (fun r190 n190 h190 e190 => ?_)
      obtain ⟨rfl, rfl, S190, O190⟩ := e190
      have Q190 := Q183.rWk S190 O190
      have V190 := S190.2.2.2.1 (n0 - 1 + 1) (by omega)
      have va190 := V190.1
      have vb190 := V190.2.1
      refine gi_aload_n (q := 194) (i := 0) C (dm_St_move 73 rfl) rfl rfl rfl ?_
      refine gi_get (q := 197) C (dm_St_move 74 rfl) rfl fl_St_39 (by first | exact Q204.ob | exact Q197.ob | exact Q190.ob | exact Q183.ob | exact Q175.ob | exact Q168.ob | exact Q160.ob | exact Q145.ob | exact Q126.ob | exact Q116.ob | exact Q108.ob | exact Q92.ob | exact Q78.ob | exact Q70.ob | exact Q59.ob | exact Q44.ob | exact Q.ob) rfl ?_
      refine gi_callv 1 (q := 200) C (dm_St_move 75 rfl) rfl my_Va_copy lk_St_99 im_Va_copy rfl (c_Va_copy _ (a + 59) _ _ V190.2.2 Q190.vx (by omega) (G.wf _ (by omega))) V190.2.2 rfl rfl ⟨(Nat.le_of_ble_eq_true rfl), (Nat.le_of_ble_eq_true rfl)⟩ (Nat.le_of_ble_eq_true rfl) ⟨(Nat.le_of_ble_eq_true rfl), (Nat.le_of_ble_eq_true rfl)⟩ (fun r197 n197 h197 e197 => ?_)
      obtain ⟨rfl, rfl, rfl⟩ := e197
      have S197 := S190.v (show n0 - 1 + 1 < 14 by omega) (Wk.2.2.2.2.1 (n0 - 1))
      have O197 := outR.rf.up (h := h190) (k := 14) (x := eV (Wk.2.2.2.2.1 (n0 - 1))) (show a + 4 ≤ _ by omega) vb190
      have Q197 := Q190.rWk S197 O197
      refine gi_aload_n (q := 201) (i := 0) C (dm_St_move 76 rfl) rfl rfl rfl ?_
      refine gi_get (q := 204) C (dm_St_move 77 rfl) rfl fl_St_23 (by first | exact Q204.ob | exact Q197.ob | exact Q190.ob | exact Q183.ob | exact Q175.ob | exact Q168.ob | exact Q160.ob | exact Q145.ob | exact Q126.ob | exact Q116.ob | exact Q108.ob | exact Q92.ob | exact Q78.ob | exact Q70.ob | exact Q59.ob | exact Q44.ob | exact Q.ob) rfl ?_
      refine gi_iload_n (q := 205) (i := 3) C (dm_St_move 78 rfl) rfl rfl rfl ?_
      refine gi_callv 1 (q := 208) C (dm_St_move 79 rfl) rfl my_Ro_markTop lk_St_195 im_Ro_markTop rfl (c_Ro_markTop (Wk.2.2.2.2.2 (n0 - 1)) (s := n0 - 1 + 1 + 1) (by omega) (by omega) (by omega) S197 rfl) S197.1 rfl rfl ⟨(Nat.le_of_ble_eq_true rfl), (Nat.le_of_ble_eq_true rfl)⟩ (Nat.le_of_ble_eq_true rfl) ⟨(Nat.le_of_ble_eq_true rfl), (Nat.le_of_ble_eq_true rfl)⟩ (fun r205 n205 h205 e205 => ?_)
      obtain ⟨rfl, rfl, S205, O205⟩ := e205
      have Q205 := Q197.rWk S205 O205
      rw [show n0 - 1 + 1 + 1 - 1 = n0 - 1 + 1 by omega] at Q205
      refine gi_goto (tgt := 218) C (dm_St_move 80 rfl) (by decide) ?_
      refine gi_iconst (q := 219) (v := 1) C (dm_St_move 84 rfl) rfl (by decide) ?_
      refine gi_zret C hr (dm_St_move 85 rfl) rfl ?_
      refine ⟨rfl, rfl, _, _, Q205, ?_⟩
      have t := (G183.push (f (n0 - 1)).1 (-1) Wk.2.2.1 Wk.2.2.2.1).mark (j := n0 - 1 + 1) (Wk.2.2.2.2.2 (n0 - 1))
      rw [← ex] at t
      show isG _ (n0 + 1) (upF f n0 (f (n0 - 1)))
      rw [show n0 - 1 + 1 = n0 by omega] at t ⊢
      refine t.ext (fun i hi => ?_)
      have e2 : f (n0 - 1) = ((f (n0 - 1)).1, Wk.2.2.2.2.2 (n0 - 1)) := by rw [em]
      by_cases z : i = n0
      · subst z
        rw [upF_self, upF_self, upF_self]
        exact e2.symm
      · rw [upF_ne z, upF_ne z, upF_ne z]
        by_cases z2 : i = n0 - 1
        · subst z2
          rw [upF_self, upF_self]
          exact e2.symm
        · rw [upF_ne z2, upF_ne z2]
end ST4
