-- needs: 89.56
section RN8
section LW
variable {p : Program} {l : Launch} {e : Env} {R : Room} {s : State} {m : MethodId} {args : Array Value} {below : List Frame} {meth : Method} {c : Code} {Q : State → Prop} {cc : ByteArray} {nL : Nat} {own : String} {V : gi_V} {cells slots pc n : Nat} {L : List (Nat × Value)} {st : List Value} {h : gi_H}
theorem gi_ldcw {idx q : Nat} {v : Int32} (C : gi_C p s m args meth c cc nL own V) (hd : decode cc pc = .ok (.ldc_w idx, 3)) (hq : pc + 3 = q) (hw : Cond.constant own idx v ∈ gi_tb) (k : gi_G p l e R s m args below meth c Q V nL cells slots (q) (L) (.int v :: st) (n) (h)) : gi_G p l e R s m args below meth c Q V nL cells slots (pc) (L) (st) (n) (h) := by subst hq; exact fun ls H locs hl hh hs => lv_ldcw C.1 C.2.1 C.2.2.2.1 (C.2.2.2.2.1 _ hw) hd (k ls H locs hl hh hs)
end LW
variable {l : Launch} {V : gi_V} {n : Nat} {h h' : gi_H} {M : Nat} {S S' : Nat → Int32} {J J' : Nat → Int64} {F : Nat → Nat → Int32} {G : Nat → Nat → Int64}
theorem l2i_lo {a : Int} (h1 : -2147483648 ≤ a) (h2 : a ≤ 2147483647) : ((eL a).toInt32 = -2147483648) = (a = -2147483648) := by
  apply propext
  have e : (eL a).toInt32.toInt = a := by
    rw [Int64.toInt_toInt32, eL_toInt (by omega) (by omega), Int.bmod_eq_of_le (by omega) (by omega)]
  constructor
  · intro q
    rw [q] at e
    rw [← e]
    decide
  · intro q
    apply Int32.toInt_inj.mp
    rw [e, q]
    decide
def ovX (x : Sp) (k : Nat) : Int := if k % 2 = 0 then x.1 else x.2.1
def ovY (N P : Option Sp) (k : Nat) : Option Int := if k < 2 then N.map (fun p => p.1) else if k < 4 then N.map (fun p => p.2.1) else if k < 6 then P.map (fun p => p.1) else P.map (fun p => p.2.1)
def ovA (x : Sp) (N P : Option Sp) : Nat → Int × Int
  | 0 => (9223372036854775807, -9223372036854775807)
  | k + 1 => match ovY N P k with
    | none => ovA x N P k
    | some y => (min (ovA x N P k).1 ((ovX x k).tdiv y), max (ovA x N P k).2 ((ovX x k).tdiv y))
theorem tdv_b {a b : Int} (h1 : -2147483648 ≤ a) (h2 : a ≤ 2147483647) : -2147483648 ≤ a.tdiv b ∧ a.tdiv b ≤ 2147483648 := by
  have k : (a.tdiv b).natAbs ≤ a.natAbs := by
    rw [Int.natAbs_tdiv]
    exact Nat.div_le_self _ _
  omega
theorem ovA_b {x : Sp} (hx : okS x) {N P : Option Sp} : ∀ k, (-2147483648 ≤ (ovA x N P k).1 ∧ (ovA x N P k).1 ≤ 9223372036854775807) ∧ (-9223372036854775807 ≤ (ovA x N P k).2 ∧ (ovA x N P k).2 ≤ 2147483648)
  | 0 => by unfold ovA; omega
  | k + 1 => by
    have i := ovA_b hx (N := N) (P := P) k
    obtain ⟨x1, x2, x3, -⟩ := id hx
    unfold ovA
    cases ovY N P k with
    | none => exact i
    | some y =>
      have t := tdv_b (a := ovX x k) (b := y) (by unfold ovX; split <;> omega) (by unfold ovX; split <;> omega)
      dsimp only
      omega
theorem min4 (a t1 t2 t3 t4 : Int) : min (min (min (min a t1) t2) t3) t4 = min a (min (min t1 t3) (min t2 t4)) := by omega
theorem max4 (a t1 t2 t3 t4 : Int) : max (max (max (max a t1) t2) t3) t4 = max a (max (max t1 t3) (max t2 t4)) := by omega
theorem ovA_4z {x : Sp} {P : Option Sp} : ovA x none P 4 = (9223372036854775807, -9223372036854775807) := rfl
theorem ovA_4n {x p : Sp} {P : Option Sp} : ovA x (some p) P 4 = (min (min (min (min 9223372036854775807 (x.1.tdiv p.1)) (x.2.1.tdiv p.1)) (x.1.tdiv p.2.1)) (x.2.1.tdiv p.2.1), max (max (max (max (-9223372036854775807) (x.1.tdiv p.1)) (x.2.1.tdiv p.1)) (x.1.tdiv p.2.1)) (x.2.1.tdiv p.2.1)) := rfl
theorem ovA_8z {x : Sp} {N : Option Sp} : ovA x N none 8 = ovA x N none 4 := rfl
theorem ovA_8p {x q : Sp} {N : Option Sp} : ovA x N (some q) 8 = (min (min (min (min (ovA x N (some q) 4).1 (x.1.tdiv q.1)) (x.2.1.tdiv q.1)) (x.1.tdiv q.2.1)) (x.2.1.tdiv q.2.1), max (max (max (max (ovA x N (some q) 4).2 (x.1.tdiv q.1)) (x.2.1.tdiv q.1)) (x.1.tdiv q.2.1)) (x.2.1.tdiv q.2.1)) := rfl
theorem quo_b2 {x p : Sp} (hx : okS x) : quoL x p ≤ 2147483648 ∧ -2147483648 ≤ quoH x p := by
  obtain ⟨x1, x2, x3, -⟩ := id hx
  have t := tdv_b (a := x.1) (b := p.1) (by omega) (by omega)
  unfold quoL quoH
  constructor
  · exact Int.le_trans (Int.min_le_left _ _) (Int.le_trans (Int.min_le_left _ _) t.2)
  · exact Int.le_trans t.1 (Int.le_trans (Int.le_max_left _ _) (Int.le_max_left _ _))
theorem ovA_n {x p : Sp} (hx : okS x) {P : Option Sp} : ovA x (some p) P 4 = (quoL x p, quoH x p) := by
  have b := quo_b2 (p := p) hx
  rw [ovA_4n, min4, max4]
  refine Prod.ext ?_ ?_
  · show min 9223372036854775807 (quoL x p) = quoL x p
    omega
  · show max (-9223372036854775807) (quoH x p) = quoH x p
    omega
theorem ovA_p {x q : Sp} {N : Option Sp} : ovA x N (some q) 8 = (min (ovA x N (some q) 4).1 (quoL x q), max (ovA x N (some q) 4).2 (quoH x q)) := by
  rw [ovA_8p, min4, max4]
  rfl
set_option maxHeartbeats 4000000 in
set_option maxRecDepth 100000 in
theorem c_Mo_over (x d : Sp) (hx : okS x) (hd : okS d) (h0 : ¬ (d.1 = 0 ∧ d.2.1 = 0)) (H : mo_at M S J F G h) : gi_T l V y_Mo_over b_Mo_over 21 none 3 86 0 0 [.ref M, .long (eL x.1), .long (eL x.2.1), .long (eL d.1), .long (eL d.2.1), .long (eL d.2.2)] n h (fun v n' h' => v = none ∧ n' = n ∧ moP M F G h S J (overS x d) h') := by
  refine gi_enter (by decide) (Nat.le_of_ble_eq_true rfl) ?_
  intro _ _ _ _ _ _ _ _ C hr hnm
  obtain ⟨fs, Ha, Hf⟩ := id H.1
  have ho : outM M h h := outM.rf
  obtain ⟨x1, x2, x3, x4, -⟩ := id hx
  have x5 := hx.st
  obtain ⟨d1, d2, d3, d4, -⟩ := id hd
  have d5 := hd.st
  have jl := l2i_lo (a := x.1) (by omega) (by omega)
  refine gi_meet (σ := Unit) 82 (fun _ => [(0, .ref M), (1, .long (eL x.1)), (3, .long (eL x.2.1)), (5, .long (eL d.1)), (7, .long (eL d.2.1)), (9, .long (eL d.2.2))]) (fun _ => []) (fun _ y => h = y ∧ ¬ (x.1 = x.2.1 ∧ d.1 = d.2.1) ∧ ¬ (x.1 = -2147483648 ∧ hasS d (-1) = true)) ?_ (fun hJ => ?_)
  · rintro - _ ⟨rfl, n0, n1⟩
    refine gi_aload_n (q := 83) (i := 0) C (dm_Mo_over 42 rfl) rfl rfl rfl ?_
    refine gi_lload (q := 85) C (dm_Mo_over 43 rfl) rfl rfl ?_
    refine gi_lload (q := 87) C (dm_Mo_over 44 rfl) rfl rfl ?_
    refine gi_lload (q := 89) C (dm_Mo_over 45 rfl) rfl rfl ?_
    refine gi_callv 3 (q := 92) C (dm_Mo_over 46 rfl) rfl my_Mo_parts lk_Mo_344 im_Mo_parts rfl (c_Mo_parts d hd H) Ha rfl rfl ⟨(Nat.le_of_ble_eq_true rfl), (Nat.le_of_ble_eq_true rfl)⟩ (Nat.le_of_ble_eq_true rfl) ⟨(Nat.le_of_ble_eq_true rfl), (Nat.le_of_ble_eq_true rfl)⟩ (fun r89 n89 h89 e89 => ?_)
    obtain ⟨rfl, rfl, S1, J1, H1, o1, r1, t29, t30, tn, tp⟩ := e89
    obtain ⟨fs, Ha1, Hf1⟩ := id H1.1
    refine gi_ldc2 (q := 95) C (dm_Mo_over 47 rfl) rfl kc_Mo_347 ?_
    refine gi_lstore (q := 97) C (dm_Mo_over 48 rfl) rfl (Nat.le_of_ble_eq_true rfl) ?_
    refine gi_ldc2 (q := 100) C (dm_Mo_over 49 rfl) rfl kc_Mo_349 ?_
    refine gi_lstore (q := 102) C (dm_Mo_over 50 rfl) rfl (Nat.le_of_ble_eq_true rfl) ?_
    refine gi_iconst (q := 103) (v := 0) C (dm_Mo_over 51 rfl) rfl (by decide) ?_
    refine gi_istore (q := 105) C (dm_Mo_over 52 rfl) rfl (Nat.le_of_ble_eq_true rfl) ?_
    rcases en : negS d with _ | p
    · rw [en] at t29
      have t29 : S1 29 = 0 := t29
      rcases ep : posS d with _ | q
      · exact absurd (np_some hd h0) (by rw [en, ep]; rintro (z | z) <;> exact z rfl)
      · rw [ep] at t30
        have t30 : S1 30 = 1 := t30
        obtain ⟨k27, k28⟩ := tp q ep
        have bp := part_p hd ep
        refine gi_while (σ := Nat) (fun j => 8 - j) (fun j => [(15, .int (nI j)), (11, .long (eL (ovA x none (some q) j).1)), (13, .long (eL (ovA x none (some q) j).2)), (0, .ref M), (1, .long (eL x.1)), (3, .long (eL x.2.1))]) (fun _ => n89) (fun _ => 0) (fun _ => 0) (fun j y' => j ≤ 8 ∧ h89 = y') 0 ⟨Nat.zero_le _, rfl⟩ ?_ (List.forall_mem_cons.mpr ⟨rfl, List.forall_mem_cons.mpr ⟨rfl, List.forall_mem_cons.mpr ⟨rfl, List.forall_mem_cons.mpr ⟨rfl, List.forall_mem_cons.mpr ⟨rfl, List.forall_mem_cons.mpr ⟨rfl, fun _ h => absurd h List.not_mem_nil⟩⟩⟩⟩⟩⟩) rfl rfl rfl
        rintro j y' ⟨hj8, rfl⟩ ih
        try dsimp only at *
        rcases Nat.lt_or_ge j 8 with jl | jl
        · rcases (show j = 0 ∨ j = 1 ∨ j = 2 ∨ j = 3 ∨ j = 4 ∨ j = 5 ∨ j = 6 ∨ j = 7 by omega) with z | z | z | z | z | z | z | z
          · subst z
            have ab := ovA_b hx (N := none) (P := some q) 0
            refine gi_iload (q := 107) C (dm_Mo_over 53 rfl) rfl rfl ?_
            refine gi_bipush (q := 109) (v := 8) C (dm_Mo_over 54 rfl) rfl (by decide) ?_
            refine gi_icmp_ge (q := 112) (tgt := 226) C (dm_Mo_over 55 rfl) rfl (by decide) (fun c109 => ?_) (fun c109 => ?_)
            · exact absurd c109 (by decide)
            · refine gi_iload (q := 114) C (dm_Mo_over 56 rfl) rfl rfl ?_
              refine gi_iconst (q := 115) (v := 4) C (dm_Mo_over 57 rfl) rfl (by decide) ?_
              refine gi_icmp_ge (q := 118) (tgt := 125) C (dm_Mo_over 58 rfl) rfl (by decide) (fun c115 => ?_) (fun c115 => ?_)
              · exact absurd c115 (by decide)
              · refine gi_aload_n (q := 119) (i := 0) C (dm_Mo_over 59 rfl) rfl rfl rfl ?_
                refine gi_get (q := 122) C (dm_Mo_over 60 rfl) rfl fl_Mo_321 Ha1 (mo_g29 Hf1) ?_
                refine gi_goto (tgt := 129) C (dm_Mo_over 61 rfl) (by decide) ?_
                refine gi_istore (q := 131) C (dm_Mo_over 64 rfl) rfl (Nat.le_of_ble_eq_true rfl) ?_
                refine gi_iload (q := 133) C (dm_Mo_over 65 rfl) rfl rfl ?_
                refine gi_iconst (q := 134) (v := 2) C (dm_Mo_over 66 rfl) rfl (by decide) ?_
                refine gi_irem (q := 135) C (dm_Mo_over 67 rfl) rfl (by decide) ?_
                refine gi_if_ne (q := 138) (tgt := 142) C (dm_Mo_over 68 rfl) rfl (by decide) (fun c135 => ?_) (fun c135 => ?_)
                · exact absurd (by decide) c135
                · refine gi_lload_n (q := 139) (i := 1) C (dm_Mo_over 69 rfl) rfl rfl rfl ?_
                  refine gi_goto (tgt := 143) C (dm_Mo_over 70 rfl) (by decide) ?_
                  refine gi_lstore (q := 145) C (dm_Mo_over 72 rfl) rfl (Nat.le_of_ble_eq_true rfl) ?_
                  refine gi_iload (q := 147) C (dm_Mo_over 73 rfl) rfl rfl ?_
                  refine gi_iconst (q := 148) (v := 2) C (dm_Mo_over 74 rfl) rfl (by decide) ?_
                  refine gi_icmp_ge (q := 151) (tgt := 158) C (dm_Mo_over 75 rfl) rfl (by decide) (fun c148 => ?_) (fun c148 => ?_)
                  · exact absurd c148 (by decide)
                  · refine gi_aload_n (q := 152) (i := 0) C (dm_Mo_over 76 rfl) rfl rfl rfl ?_
                    refine gi_get (q := 155) C (dm_Mo_over 77 rfl) rfl fl_Mo_324 Ha1 (mo_g25 Hf1) ?_
                    refine gi_goto (tgt := 189) C (dm_Mo_over 78 rfl) (by decide) ?_
                    skip
                    refine gi_lstore (q := 191) C (dm_Mo_over 93 rfl) rfl (Nat.le_of_ble_eq_true rfl) ?_
                    refine gi_iload (q := 193) C (dm_Mo_over 94 rfl) rfl rfl ?_
                    refine gi_if_eq (q := 196) (tgt := 220) C (dm_Mo_over 95 rfl) rfl (by decide) (fun c193 => ?_) (fun c193 => ?_)
                    · refine gi_iinc (q := 223) (v := 1) C (dm_Mo_over 108 rfl) rfl rfl (by decide) (Nat.le_of_ble_eq_true rfl) ?_
                      refine gi_goto (tgt := 105) C (dm_Mo_over 109 rfl) (by decide) ?_
                      refine gi_close (ih 1 _ ⟨by decide, rfl⟩ (by decide)) (List.forall_mem_cons.mpr ⟨rfl, List.forall_mem_cons.mpr ⟨rfl, List.forall_mem_cons.mpr ⟨rfl, List.forall_mem_cons.mpr ⟨rfl, List.forall_mem_cons.mpr ⟨rfl, List.forall_mem_cons.mpr ⟨rfl, fun _ h => absurd h List.not_mem_nil⟩⟩⟩⟩⟩⟩) rfl rfl rfl
                    · exact absurd t29 c193
          · subst z
            have ab := ovA_b hx (N := none) (P := some q) 1
            refine gi_iload (q := 107) C (dm_Mo_over 53 rfl) rfl rfl ?_
            refine gi_bipush (q := 109) (v := 8) C (dm_Mo_over 54 rfl) rfl (by decide) ?_
            refine gi_icmp_ge (q := 112) (tgt := 226) C (dm_Mo_over 55 rfl) rfl (by decide) (fun c109 => ?_) (fun c109 => ?_)
            · exact absurd c109 (by decide)
            · refine gi_iload (q := 114) C (dm_Mo_over 56 rfl) rfl rfl ?_
              refine gi_iconst (q := 115) (v := 4) C (dm_Mo_over 57 rfl) rfl (by decide) ?_
              refine gi_icmp_ge (q := 118) (tgt := 125) C (dm_Mo_over 58 rfl) rfl (by decide) (fun c115 => ?_) (fun c115 => ?_)
              · exact absurd c115 (by decide)
              · refine gi_aload_n (q := 119) (i := 0) C (dm_Mo_over 59 rfl) rfl rfl rfl ?_
                refine gi_get (q := 122) C (dm_Mo_over 60 rfl) rfl fl_Mo_321 Ha1 (mo_g29 Hf1) ?_
                refine gi_goto (tgt := 129) C (dm_Mo_over 61 rfl) (by decide) ?_
                refine gi_istore (q := 131) C (dm_Mo_over 64 rfl) rfl (Nat.le_of_ble_eq_true rfl) ?_
                refine gi_iload (q := 133) C (dm_Mo_over 65 rfl) rfl rfl ?_
                refine gi_iconst (q := 134) (v := 2) C (dm_Mo_over 66 rfl) rfl (by decide) ?_
                refine gi_irem (q := 135) C (dm_Mo_over 67 rfl) rfl (by decide) ?_
                refine gi_if_ne (q := 138) (tgt := 142) C (dm_Mo_over 68 rfl) rfl (by decide) (fun c135 => ?_) (fun c135 => ?_)
                · refine gi_lload_n (q := 143) (i := 3) C (dm_Mo_over 71 rfl) rfl rfl rfl ?_
                  refine gi_lstore (q := 145) C (dm_Mo_over 72 rfl) rfl (Nat.le_of_ble_eq_true rfl) ?_
                  refine gi_iload (q := 147) C (dm_Mo_over 73 rfl) rfl rfl ?_
                  refine gi_iconst (q := 148) (v := 2) C (dm_Mo_over 74 rfl) rfl (by decide) ?_
                  refine gi_icmp_ge (q := 151) (tgt := 158) C (dm_Mo_over 75 rfl) rfl (by decide) (fun c148 => ?_) (fun c148 => ?_)
                  · exact absurd c148 (by decide)
                  · refine gi_aload_n (q := 152) (i := 0) C (dm_Mo_over 76 rfl) rfl rfl rfl ?_
                    refine gi_get (q := 155) C (dm_Mo_over 77 rfl) rfl fl_Mo_324 Ha1 (mo_g25 Hf1) ?_
                    refine gi_goto (tgt := 189) C (dm_Mo_over 78 rfl) (by decide) ?_
                    skip
                    refine gi_lstore (q := 191) C (dm_Mo_over 93 rfl) rfl (Nat.le_of_ble_eq_true rfl) ?_
                    refine gi_iload (q := 193) C (dm_Mo_over 94 rfl) rfl rfl ?_
                    refine gi_if_eq (q := 196) (tgt := 220) C (dm_Mo_over 95 rfl) rfl (by decide) (fun c193 => ?_) (fun c193 => ?_)
                    · refine gi_iinc (q := 223) (v := 1) C (dm_Mo_over 108 rfl) rfl rfl (by decide) (Nat.le_of_ble_eq_true rfl) ?_
                      refine gi_goto (tgt := 105) C (dm_Mo_over 109 rfl) (by decide) ?_
                      refine gi_close (ih 2 _ ⟨by decide, rfl⟩ (by decide)) (List.forall_mem_cons.mpr ⟨rfl, List.forall_mem_cons.mpr ⟨rfl, List.forall_mem_cons.mpr ⟨rfl, List.forall_mem_cons.mpr ⟨rfl, List.forall_mem_cons.mpr ⟨rfl, List.forall_mem_cons.mpr ⟨rfl, fun _ h => absurd h List.not_mem_nil⟩⟩⟩⟩⟩⟩) rfl rfl rfl
                    · exact absurd t29 c193
                · exact absurd c135 (by decide)
          · subst z
            have ab := ovA_b hx (N := none) (P := some q) 2
            refine gi_iload (q := 107) C (dm_Mo_over 53 rfl) rfl rfl ?_
            refine gi_bipush (q := 109) (v := 8) C (dm_Mo_over 54 rfl) rfl (by decide) ?_
            refine gi_icmp_ge (q := 112) (tgt := 226) C (dm_Mo_over 55 rfl) rfl (by decide) (fun c109 => ?_) (fun c109 => ?_)
            · exact absurd c109 (by decide)
            · refine gi_iload (q := 114) C (dm_Mo_over 56 rfl) rfl rfl ?_
              refine gi_iconst (q := 115) (v := 4) C (dm_Mo_over 57 rfl) rfl (by decide) ?_
              refine gi_icmp_ge (q := 118) (tgt := 125) C (dm_Mo_over 58 rfl) rfl (by decide) (fun c115 => ?_) (fun c115 => ?_)
              · exact absurd c115 (by decide)
              · refine gi_aload_n (q := 119) (i := 0) C (dm_Mo_over 59 rfl) rfl rfl rfl ?_
                refine gi_get (q := 122) C (dm_Mo_over 60 rfl) rfl fl_Mo_321 Ha1 (mo_g29 Hf1) ?_
                refine gi_goto (tgt := 129) C (dm_Mo_over 61 rfl) (by decide) ?_
                refine gi_istore (q := 131) C (dm_Mo_over 64 rfl) rfl (Nat.le_of_ble_eq_true rfl) ?_
                refine gi_iload (q := 133) C (dm_Mo_over 65 rfl) rfl rfl ?_
                refine gi_iconst (q := 134) (v := 2) C (dm_Mo_over 66 rfl) rfl (by decide) ?_
                refine gi_irem (q := 135) C (dm_Mo_over 67 rfl) rfl (by decide) ?_
                refine gi_if_ne (q := 138) (tgt := 142) C (dm_Mo_over 68 rfl) rfl (by decide) (fun c135 => ?_) (fun c135 => ?_)
                · exact absurd (by decide) c135
                · refine gi_lload_n (q := 139) (i := 1) C (dm_Mo_over 69 rfl) rfl rfl rfl ?_
                  refine gi_goto (tgt := 143) C (dm_Mo_over 70 rfl) (by decide) ?_
                  refine gi_lstore (q := 145) C (dm_Mo_over 72 rfl) rfl (Nat.le_of_ble_eq_true rfl) ?_
                  refine gi_iload (q := 147) C (dm_Mo_over 73 rfl) rfl rfl ?_
                  refine gi_iconst (q := 148) (v := 2) C (dm_Mo_over 74 rfl) rfl (by decide) ?_
                  refine gi_icmp_ge (q := 151) (tgt := 158) C (dm_Mo_over 75 rfl) rfl (by decide) (fun c148 => ?_) (fun c148 => ?_)
                  · refine gi_iload (q := 160) C (dm_Mo_over 79 rfl) rfl rfl ?_
                    refine gi_iconst (q := 161) (v := 4) C (dm_Mo_over 80 rfl) rfl (by decide) ?_
                    refine gi_icmp_ge (q := 164) (tgt := 171) C (dm_Mo_over 81 rfl) rfl (by decide) (fun c161 => ?_) (fun c161 => ?_)
                    · exact absurd c161 (by decide)
                    · refine gi_aload_n (q := 165) (i := 0) C (dm_Mo_over 82 rfl) rfl rfl rfl ?_
                      refine gi_get (q := 168) C (dm_Mo_over 83 rfl) rfl fl_Mo_327 Ha1 (mo_g26 Hf1) ?_
                      refine gi_goto (tgt := 189) C (dm_Mo_over 84 rfl) (by decide) ?_
                      skip
                      refine gi_lstore (q := 191) C (dm_Mo_over 93 rfl) rfl (Nat.le_of_ble_eq_true rfl) ?_
                      refine gi_iload (q := 193) C (dm_Mo_over 94 rfl) rfl rfl ?_
                      refine gi_if_eq (q := 196) (tgt := 220) C (dm_Mo_over 95 rfl) rfl (by decide) (fun c193 => ?_) (fun c193 => ?_)
                      · refine gi_iinc (q := 223) (v := 1) C (dm_Mo_over 108 rfl) rfl rfl (by decide) (Nat.le_of_ble_eq_true rfl) ?_
                        refine gi_goto (tgt := 105) C (dm_Mo_over 109 rfl) (by decide) ?_
                        refine gi_close (ih 3 _ ⟨by decide, rfl⟩ (by decide)) (List.forall_mem_cons.mpr ⟨rfl, List.forall_mem_cons.mpr ⟨rfl, List.forall_mem_cons.mpr ⟨rfl, List.forall_mem_cons.mpr ⟨rfl, List.forall_mem_cons.mpr ⟨rfl, List.forall_mem_cons.mpr ⟨rfl, fun _ h => absurd h List.not_mem_nil⟩⟩⟩⟩⟩⟩) rfl rfl rfl
                      · exact absurd t29 c193
                  · exact absurd (by decide) c148
          · subst z
            have ab := ovA_b hx (N := none) (P := some q) 3
            refine gi_iload (q := 107) C (dm_Mo_over 53 rfl) rfl rfl ?_
            refine gi_bipush (q := 109) (v := 8) C (dm_Mo_over 54 rfl) rfl (by decide) ?_
            refine gi_icmp_ge (q := 112) (tgt := 226) C (dm_Mo_over 55 rfl) rfl (by decide) (fun c109 => ?_) (fun c109 => ?_)
            · exact absurd c109 (by decide)
            · refine gi_iload (q := 114) C (dm_Mo_over 56 rfl) rfl rfl ?_
              refine gi_iconst (q := 115) (v := 4) C (dm_Mo_over 57 rfl) rfl (by decide) ?_
              refine gi_icmp_ge (q := 118) (tgt := 125) C (dm_Mo_over 58 rfl) rfl (by decide) (fun c115 => ?_) (fun c115 => ?_)
              · exact absurd c115 (by decide)
              · refine gi_aload_n (q := 119) (i := 0) C (dm_Mo_over 59 rfl) rfl rfl rfl ?_
                refine gi_get (q := 122) C (dm_Mo_over 60 rfl) rfl fl_Mo_321 Ha1 (mo_g29 Hf1) ?_
                refine gi_goto (tgt := 129) C (dm_Mo_over 61 rfl) (by decide) ?_
                refine gi_istore (q := 131) C (dm_Mo_over 64 rfl) rfl (Nat.le_of_ble_eq_true rfl) ?_
                refine gi_iload (q := 133) C (dm_Mo_over 65 rfl) rfl rfl ?_
                refine gi_iconst (q := 134) (v := 2) C (dm_Mo_over 66 rfl) rfl (by decide) ?_
                refine gi_irem (q := 135) C (dm_Mo_over 67 rfl) rfl (by decide) ?_
                refine gi_if_ne (q := 138) (tgt := 142) C (dm_Mo_over 68 rfl) rfl (by decide) (fun c135 => ?_) (fun c135 => ?_)
                · refine gi_lload_n (q := 143) (i := 3) C (dm_Mo_over 71 rfl) rfl rfl rfl ?_
                  refine gi_lstore (q := 145) C (dm_Mo_over 72 rfl) rfl (Nat.le_of_ble_eq_true rfl) ?_
                  refine gi_iload (q := 147) C (dm_Mo_over 73 rfl) rfl rfl ?_
                  refine gi_iconst (q := 148) (v := 2) C (dm_Mo_over 74 rfl) rfl (by decide) ?_
                  refine gi_icmp_ge (q := 151) (tgt := 158) C (dm_Mo_over 75 rfl) rfl (by decide) (fun c148 => ?_) (fun c148 => ?_)
                  · refine gi_iload (q := 160) C (dm_Mo_over 79 rfl) rfl rfl ?_
                    refine gi_iconst (q := 161) (v := 4) C (dm_Mo_over 80 rfl) rfl (by decide) ?_
                    refine gi_icmp_ge (q := 164) (tgt := 171) C (dm_Mo_over 81 rfl) rfl (by decide) (fun c161 => ?_) (fun c161 => ?_)
                    · exact absurd c161 (by decide)
                    · refine gi_aload_n (q := 165) (i := 0) C (dm_Mo_over 82 rfl) rfl rfl rfl ?_
                      refine gi_get (q := 168) C (dm_Mo_over 83 rfl) rfl fl_Mo_327 Ha1 (mo_g26 Hf1) ?_
                      refine gi_goto (tgt := 189) C (dm_Mo_over 84 rfl) (by decide) ?_
                      skip
                      refine gi_lstore (q := 191) C (dm_Mo_over 93 rfl) rfl (Nat.le_of_ble_eq_true rfl) ?_
                      refine gi_iload (q := 193) C (dm_Mo_over 94 rfl) rfl rfl ?_
                      refine gi_if_eq (q := 196) (tgt := 220) C (dm_Mo_over 95 rfl) rfl (by decide) (fun c193 => ?_) (fun c193 => ?_)
                      · refine gi_iinc (q := 223) (v := 1) C (dm_Mo_over 108 rfl) rfl rfl (by decide) (Nat.le_of_ble_eq_true rfl) ?_
                        refine gi_goto (tgt := 105) C (dm_Mo_over 109 rfl) (by decide) ?_
                        refine gi_close (ih 4 _ ⟨by decide, rfl⟩ (by decide)) (List.forall_mem_cons.mpr ⟨rfl, List.forall_mem_cons.mpr ⟨rfl, List.forall_mem_cons.mpr ⟨rfl, List.forall_mem_cons.mpr ⟨rfl, List.forall_mem_cons.mpr ⟨rfl, List.forall_mem_cons.mpr ⟨rfl, fun _ h => absurd h List.not_mem_nil⟩⟩⟩⟩⟩⟩) rfl rfl rfl
                      · exact absurd t29 c193
                  · exact absurd (by decide) c148
                · exact absurd c135 (by decide)
          · subst z
            have ab := ovA_b hx (N := none) (P := some q) 4
            have tb := tdv_b (a := x.1) (b := q.1) (by omega) (by omega)
            refine gi_iload (q := 107) C (dm_Mo_over 53 rfl) rfl rfl ?_
            refine gi_bipush (q := 109) (v := 8) C (dm_Mo_over 54 rfl) rfl (by decide) ?_
            refine gi_icmp_ge (q := 112) (tgt := 226) C (dm_Mo_over 55 rfl) rfl (by decide) (fun c109 => ?_) (fun c109 => ?_)
            · exact absurd c109 (by decide)
            · refine gi_iload (q := 114) C (dm_Mo_over 56 rfl) rfl rfl ?_
              refine gi_iconst (q := 115) (v := 4) C (dm_Mo_over 57 rfl) rfl (by decide) ?_
              refine gi_icmp_ge (q := 118) (tgt := 125) C (dm_Mo_over 58 rfl) rfl (by decide) (fun c115 => ?_) (fun c115 => ?_)
              · refine gi_aload_n (q := 126) (i := 0) C (dm_Mo_over 62 rfl) rfl rfl rfl ?_
                refine gi_get (q := 129) C (dm_Mo_over 63 rfl) rfl fl_Mo_330 Ha1 (mo_g30 Hf1) ?_
                refine gi_istore (q := 131) C (dm_Mo_over 64 rfl) rfl (Nat.le_of_ble_eq_true rfl) ?_
                refine gi_iload (q := 133) C (dm_Mo_over 65 rfl) rfl rfl ?_
                refine gi_iconst (q := 134) (v := 2) C (dm_Mo_over 66 rfl) rfl (by decide) ?_
                refine gi_irem (q := 135) C (dm_Mo_over 67 rfl) rfl (by decide) ?_
                refine gi_if_ne (q := 138) (tgt := 142) C (dm_Mo_over 68 rfl) rfl (by decide) (fun c135 => ?_) (fun c135 => ?_)
                · exact absurd (by decide) c135
                · refine gi_lload_n (q := 139) (i := 1) C (dm_Mo_over 69 rfl) rfl rfl rfl ?_
                  refine gi_goto (tgt := 143) C (dm_Mo_over 70 rfl) (by decide) ?_
                  refine gi_lstore (q := 145) C (dm_Mo_over 72 rfl) rfl (Nat.le_of_ble_eq_true rfl) ?_
                  refine gi_iload (q := 147) C (dm_Mo_over 73 rfl) rfl rfl ?_
                  refine gi_iconst (q := 148) (v := 2) C (dm_Mo_over 74 rfl) rfl (by decide) ?_
                  refine gi_icmp_ge (q := 151) (tgt := 158) C (dm_Mo_over 75 rfl) rfl (by decide) (fun c148 => ?_) (fun c148 => ?_)
                  · refine gi_iload (q := 160) C (dm_Mo_over 79 rfl) rfl rfl ?_
                    refine gi_iconst (q := 161) (v := 4) C (dm_Mo_over 80 rfl) rfl (by decide) ?_
                    refine gi_icmp_ge (q := 164) (tgt := 171) C (dm_Mo_over 81 rfl) rfl (by decide) (fun c161 => ?_) (fun c161 => ?_)
                    · refine gi_iload (q := 173) C (dm_Mo_over 85 rfl) rfl rfl ?_
                      refine gi_bipush (q := 175) (v := 6) C (dm_Mo_over 86 rfl) rfl (by decide) ?_
                      refine gi_icmp_ge (q := 178) (tgt := 185) C (dm_Mo_over 87 rfl) rfl (by decide) (fun c175 => ?_) (fun c175 => ?_)
                      · exact absurd c175 (by decide)
                      · refine gi_aload_n (q := 179) (i := 0) C (dm_Mo_over 88 rfl) rfl rfl rfl ?_
                        refine gi_get (q := 182) C (dm_Mo_over 89 rfl) rfl fl_Mo_333 Ha1 (mo_g27 Hf1) ?_
                        refine gi_goto (tgt := 189) C (dm_Mo_over 90 rfl) (by decide) ?_
                        rw [k27]
                        refine gi_lstore (q := 191) C (dm_Mo_over 93 rfl) rfl (Nat.le_of_ble_eq_true rfl) ?_
                        refine gi_iload (q := 193) C (dm_Mo_over 94 rfl) rfl rfl ?_
                        refine gi_if_eq (q := 196) (tgt := 220) C (dm_Mo_over 95 rfl) rfl (by decide) (fun c193 => ?_) (fun c193 => ?_)
                        · exact absurd c193 (by rw [t30]; decide)
                        · refine gi_lload (q := 198) C (dm_Mo_over 96 rfl) rfl rfl ?_
                          refine gi_lload (q := 200) C (dm_Mo_over 97 rfl) rfl rfl ?_
                          refine gi_lload (q := 202) C (dm_Mo_over 98 rfl) rfl rfl ?_
                          refine gi_ldiv (q := 203) C (dm_Mo_over 99 rfl) rfl (fun z => by rw [eL_0, eL_eq (by omega) (by omega) (by omega) (by omega)] at z; omega) ?_
                          rw [eL_div (by omega) (by omega) (by omega) (by omega)]
                          refine gi_calls 2 (q := 206) C (dm_Mo_over 100 rfl) rfl my_Mo_min lk_Mo_252 sm_Mo_min (c_Mo_min (ovA x none (some q) 4).1 (x.1.tdiv q.1) (by omega) (by omega) (by omega) (by omega)) rfl rfl ⟨(Nat.le_of_ble_eq_true rfl), (Nat.le_of_ble_eq_true rfl)⟩ (Nat.le_of_ble_eq_true rfl) ⟨(Nat.le_of_ble_eq_true rfl), (Nat.le_of_ble_eq_true rfl)⟩ (fun r203 n203 h203 e203 => ?_)
                          obtain ⟨rfl, q203, u203⟩ := e203
                          rw [q203, u203]
                          refine gi_lstore (q := 208) C (dm_Mo_over 101 rfl) rfl (Nat.le_of_ble_eq_true rfl) ?_
                          refine gi_lload (q := 210) C (dm_Mo_over 102 rfl) rfl rfl ?_
                          refine gi_lload (q := 212) C (dm_Mo_over 103 rfl) rfl rfl ?_
                          refine gi_lload (q := 214) C (dm_Mo_over 104 rfl) rfl rfl ?_
                          refine gi_ldiv (q := 215) C (dm_Mo_over 105 rfl) rfl (fun z => by rw [eL_0, eL_eq (by omega) (by omega) (by omega) (by omega)] at z; omega) ?_
                          rw [eL_div (by omega) (by omega) (by omega) (by omega)]
                          refine gi_calls 2 (q := 218) C (dm_Mo_over 106 rfl) rfl my_Mo_max lk_Mo_256 sm_Mo_max (c_Mo_max (ovA x none (some q) 4).2 (x.1.tdiv q.1) (by omega) (by omega) (by omega) (by omega)) rfl rfl ⟨(Nat.le_of_ble_eq_true rfl), (Nat.le_of_ble_eq_true rfl)⟩ (Nat.le_of_ble_eq_true rfl) ⟨(Nat.le_of_ble_eq_true rfl), (Nat.le_of_ble_eq_true rfl)⟩ (fun r215 n215 h215 e215 => ?_)
                          obtain ⟨rfl, q215, u215⟩ := e215
                          rw [q215, u215]
                          refine gi_lstore (q := 220) C (dm_Mo_over 107 rfl) rfl (Nat.le_of_ble_eq_true rfl) ?_
                          refine gi_iinc (q := 223) (v := 1) C (dm_Mo_over 108 rfl) rfl rfl (by decide) (Nat.le_of_ble_eq_true rfl) ?_
                          refine gi_goto (tgt := 105) C (dm_Mo_over 109 rfl) (by decide) ?_
                          refine gi_close (ih 5 _ ⟨by decide, rfl⟩ (by decide)) (List.forall_mem_cons.mpr ⟨rfl, List.forall_mem_cons.mpr ⟨rfl, List.forall_mem_cons.mpr ⟨rfl, List.forall_mem_cons.mpr ⟨rfl, List.forall_mem_cons.mpr ⟨rfl, List.forall_mem_cons.mpr ⟨rfl, fun _ h => absurd h List.not_mem_nil⟩⟩⟩⟩⟩⟩) rfl rfl rfl
                    · exact absurd (by decide) c161
                  · exact absurd (by decide) c148
              · exact absurd (by decide) c115
          · subst z
            have ab := ovA_b hx (N := none) (P := some q) 5
            have tb := tdv_b (a := x.2.1) (b := q.1) (by omega) (by omega)
            refine gi_iload (q := 107) C (dm_Mo_over 53 rfl) rfl rfl ?_
            refine gi_bipush (q := 109) (v := 8) C (dm_Mo_over 54 rfl) rfl (by decide) ?_
            refine gi_icmp_ge (q := 112) (tgt := 226) C (dm_Mo_over 55 rfl) rfl (by decide) (fun c109 => ?_) (fun c109 => ?_)
            · exact absurd c109 (by decide)
            · refine gi_iload (q := 114) C (dm_Mo_over 56 rfl) rfl rfl ?_
              refine gi_iconst (q := 115) (v := 4) C (dm_Mo_over 57 rfl) rfl (by decide) ?_
              refine gi_icmp_ge (q := 118) (tgt := 125) C (dm_Mo_over 58 rfl) rfl (by decide) (fun c115 => ?_) (fun c115 => ?_)
              · refine gi_aload_n (q := 126) (i := 0) C (dm_Mo_over 62 rfl) rfl rfl rfl ?_
                refine gi_get (q := 129) C (dm_Mo_over 63 rfl) rfl fl_Mo_330 Ha1 (mo_g30 Hf1) ?_
                refine gi_istore (q := 131) C (dm_Mo_over 64 rfl) rfl (Nat.le_of_ble_eq_true rfl) ?_
                refine gi_iload (q := 133) C (dm_Mo_over 65 rfl) rfl rfl ?_
                refine gi_iconst (q := 134) (v := 2) C (dm_Mo_over 66 rfl) rfl (by decide) ?_
                refine gi_irem (q := 135) C (dm_Mo_over 67 rfl) rfl (by decide) ?_
                refine gi_if_ne (q := 138) (tgt := 142) C (dm_Mo_over 68 rfl) rfl (by decide) (fun c135 => ?_) (fun c135 => ?_)
                · refine gi_lload_n (q := 143) (i := 3) C (dm_Mo_over 71 rfl) rfl rfl rfl ?_
                  refine gi_lstore (q := 145) C (dm_Mo_over 72 rfl) rfl (Nat.le_of_ble_eq_true rfl) ?_
                  refine gi_iload (q := 147) C (dm_Mo_over 73 rfl) rfl rfl ?_
                  refine gi_iconst (q := 148) (v := 2) C (dm_Mo_over 74 rfl) rfl (by decide) ?_
                  refine gi_icmp_ge (q := 151) (tgt := 158) C (dm_Mo_over 75 rfl) rfl (by decide) (fun c148 => ?_) (fun c148 => ?_)
                  · refine gi_iload (q := 160) C (dm_Mo_over 79 rfl) rfl rfl ?_
                    refine gi_iconst (q := 161) (v := 4) C (dm_Mo_over 80 rfl) rfl (by decide) ?_
                    refine gi_icmp_ge (q := 164) (tgt := 171) C (dm_Mo_over 81 rfl) rfl (by decide) (fun c161 => ?_) (fun c161 => ?_)
                    · refine gi_iload (q := 173) C (dm_Mo_over 85 rfl) rfl rfl ?_
                      refine gi_bipush (q := 175) (v := 6) C (dm_Mo_over 86 rfl) rfl (by decide) ?_
                      refine gi_icmp_ge (q := 178) (tgt := 185) C (dm_Mo_over 87 rfl) rfl (by decide) (fun c175 => ?_) (fun c175 => ?_)
                      · exact absurd c175 (by decide)
                      · refine gi_aload_n (q := 179) (i := 0) C (dm_Mo_over 88 rfl) rfl rfl rfl ?_
                        refine gi_get (q := 182) C (dm_Mo_over 89 rfl) rfl fl_Mo_333 Ha1 (mo_g27 Hf1) ?_
                        refine gi_goto (tgt := 189) C (dm_Mo_over 90 rfl) (by decide) ?_
                        rw [k27]
                        refine gi_lstore (q := 191) C (dm_Mo_over 93 rfl) rfl (Nat.le_of_ble_eq_true rfl) ?_
                        refine gi_iload (q := 193) C (dm_Mo_over 94 rfl) rfl rfl ?_
                        refine gi_if_eq (q := 196) (tgt := 220) C (dm_Mo_over 95 rfl) rfl (by decide) (fun c193 => ?_) (fun c193 => ?_)
                        · exact absurd c193 (by rw [t30]; decide)
                        · refine gi_lload (q := 198) C (dm_Mo_over 96 rfl) rfl rfl ?_
                          refine gi_lload (q := 200) C (dm_Mo_over 97 rfl) rfl rfl ?_
                          refine gi_lload (q := 202) C (dm_Mo_over 98 rfl) rfl rfl ?_
                          refine gi_ldiv (q := 203) C (dm_Mo_over 99 rfl) rfl (fun z => by rw [eL_0, eL_eq (by omega) (by omega) (by omega) (by omega)] at z; omega) ?_
                          rw [eL_div (by omega) (by omega) (by omega) (by omega)]
                          refine gi_calls 2 (q := 206) C (dm_Mo_over 100 rfl) rfl my_Mo_min lk_Mo_252 sm_Mo_min (c_Mo_min (ovA x none (some q) 5).1 (x.2.1.tdiv q.1) (by omega) (by omega) (by omega) (by omega)) rfl rfl ⟨(Nat.le_of_ble_eq_true rfl), (Nat.le_of_ble_eq_true rfl)⟩ (Nat.le_of_ble_eq_true rfl) ⟨(Nat.le_of_ble_eq_true rfl), (Nat.le_of_ble_eq_true rfl)⟩ (fun r203 n203 h203 e203 => ?_)
                          obtain ⟨rfl, q203, u203⟩ := e203
                          rw [q203, u203]
                          refine gi_lstore (q := 208) C (dm_Mo_over 101 rfl) rfl (Nat.le_of_ble_eq_true rfl) ?_
                          refine gi_lload (q := 210) C (dm_Mo_over 102 rfl) rfl rfl ?_
                          refine gi_lload (q := 212) C (dm_Mo_over 103 rfl) rfl rfl ?_
                          refine gi_lload (q := 214) C (dm_Mo_over 104 rfl) rfl rfl ?_
                          refine gi_ldiv (q := 215) C (dm_Mo_over 105 rfl) rfl (fun z => by rw [eL_0, eL_eq (by omega) (by omega) (by omega) (by omega)] at z; omega) ?_
                          rw [eL_div (by omega) (by omega) (by omega) (by omega)]
                          refine gi_calls 2 (q := 218) C (dm_Mo_over 106 rfl) rfl my_Mo_max lk_Mo_256 sm_Mo_max (c_Mo_max (ovA x none (some q) 5).2 (x.2.1.tdiv q.1) (by omega) (by omega) (by omega) (by omega)) rfl rfl ⟨(Nat.le_of_ble_eq_true rfl), (Nat.le_of_ble_eq_true rfl)⟩ (Nat.le_of_ble_eq_true rfl) ⟨(Nat.le_of_ble_eq_true rfl), (Nat.le_of_ble_eq_true rfl)⟩ (fun r215 n215 h215 e215 => ?_)
                          obtain ⟨rfl, q215, u215⟩ := e215
                          rw [q215, u215]
                          refine gi_lstore (q := 220) C (dm_Mo_over 107 rfl) rfl (Nat.le_of_ble_eq_true rfl) ?_
                          refine gi_iinc (q := 223) (v := 1) C (dm_Mo_over 108 rfl) rfl rfl (by decide) (Nat.le_of_ble_eq_true rfl) ?_
                          refine gi_goto (tgt := 105) C (dm_Mo_over 109 rfl) (by decide) ?_
                          refine gi_close (ih 6 _ ⟨by decide, rfl⟩ (by decide)) (List.forall_mem_cons.mpr ⟨rfl, List.forall_mem_cons.mpr ⟨rfl, List.forall_mem_cons.mpr ⟨rfl, List.forall_mem_cons.mpr ⟨rfl, List.forall_mem_cons.mpr ⟨rfl, List.forall_mem_cons.mpr ⟨rfl, fun _ h => absurd h List.not_mem_nil⟩⟩⟩⟩⟩⟩) rfl rfl rfl
                    · exact absurd (by decide) c161
                  · exact absurd (by decide) c148
                · exact absurd c135 (by decide)
              · exact absurd (by decide) c115
          · subst z
            have ab := ovA_b hx (N := none) (P := some q) 6
            have tb := tdv_b (a := x.1) (b := q.2.1) (by omega) (by omega)
            refine gi_iload (q := 107) C (dm_Mo_over 53 rfl) rfl rfl ?_
            refine gi_bipush (q := 109) (v := 8) C (dm_Mo_over 54 rfl) rfl (by decide) ?_
            refine gi_icmp_ge (q := 112) (tgt := 226) C (dm_Mo_over 55 rfl) rfl (by decide) (fun c109 => ?_) (fun c109 => ?_)
            · exact absurd c109 (by decide)
            · refine gi_iload (q := 114) C (dm_Mo_over 56 rfl) rfl rfl ?_
              refine gi_iconst (q := 115) (v := 4) C (dm_Mo_over 57 rfl) rfl (by decide) ?_
              refine gi_icmp_ge (q := 118) (tgt := 125) C (dm_Mo_over 58 rfl) rfl (by decide) (fun c115 => ?_) (fun c115 => ?_)
              · refine gi_aload_n (q := 126) (i := 0) C (dm_Mo_over 62 rfl) rfl rfl rfl ?_
                refine gi_get (q := 129) C (dm_Mo_over 63 rfl) rfl fl_Mo_330 Ha1 (mo_g30 Hf1) ?_
                refine gi_istore (q := 131) C (dm_Mo_over 64 rfl) rfl (Nat.le_of_ble_eq_true rfl) ?_
                refine gi_iload (q := 133) C (dm_Mo_over 65 rfl) rfl rfl ?_
                refine gi_iconst (q := 134) (v := 2) C (dm_Mo_over 66 rfl) rfl (by decide) ?_
                refine gi_irem (q := 135) C (dm_Mo_over 67 rfl) rfl (by decide) ?_
                refine gi_if_ne (q := 138) (tgt := 142) C (dm_Mo_over 68 rfl) rfl (by decide) (fun c135 => ?_) (fun c135 => ?_)
                · exact absurd (by decide) c135
                · refine gi_lload_n (q := 139) (i := 1) C (dm_Mo_over 69 rfl) rfl rfl rfl ?_
                  refine gi_goto (tgt := 143) C (dm_Mo_over 70 rfl) (by decide) ?_
                  refine gi_lstore (q := 145) C (dm_Mo_over 72 rfl) rfl (Nat.le_of_ble_eq_true rfl) ?_
                  refine gi_iload (q := 147) C (dm_Mo_over 73 rfl) rfl rfl ?_
                  refine gi_iconst (q := 148) (v := 2) C (dm_Mo_over 74 rfl) rfl (by decide) ?_
                  refine gi_icmp_ge (q := 151) (tgt := 158) C (dm_Mo_over 75 rfl) rfl (by decide) (fun c148 => ?_) (fun c148 => ?_)
                  · refine gi_iload (q := 160) C (dm_Mo_over 79 rfl) rfl rfl ?_
                    refine gi_iconst (q := 161) (v := 4) C (dm_Mo_over 80 rfl) rfl (by decide) ?_
                    refine gi_icmp_ge (q := 164) (tgt := 171) C (dm_Mo_over 81 rfl) rfl (by decide) (fun c161 => ?_) (fun c161 => ?_)
                    · refine gi_iload (q := 173) C (dm_Mo_over 85 rfl) rfl rfl ?_
                      refine gi_bipush (q := 175) (v := 6) C (dm_Mo_over 86 rfl) rfl (by decide) ?_
                      refine gi_icmp_ge (q := 178) (tgt := 185) C (dm_Mo_over 87 rfl) rfl (by decide) (fun c175 => ?_) (fun c175 => ?_)
                      · refine gi_aload_n (q := 186) (i := 0) C (dm_Mo_over 91 rfl) rfl rfl rfl ?_
                        refine gi_get (q := 189) C (dm_Mo_over 92 rfl) rfl fl_Mo_336 Ha1 (mo_g28 Hf1) ?_
                        rw [k28]
                        refine gi_lstore (q := 191) C (dm_Mo_over 93 rfl) rfl (Nat.le_of_ble_eq_true rfl) ?_
                        refine gi_iload (q := 193) C (dm_Mo_over 94 rfl) rfl rfl ?_
                        refine gi_if_eq (q := 196) (tgt := 220) C (dm_Mo_over 95 rfl) rfl (by decide) (fun c193 => ?_) (fun c193 => ?_)
                        · exact absurd c193 (by rw [t30]; decide)
                        · refine gi_lload (q := 198) C (dm_Mo_over 96 rfl) rfl rfl ?_
                          refine gi_lload (q := 200) C (dm_Mo_over 97 rfl) rfl rfl ?_
                          refine gi_lload (q := 202) C (dm_Mo_over 98 rfl) rfl rfl ?_
                          refine gi_ldiv (q := 203) C (dm_Mo_over 99 rfl) rfl (fun z => by rw [eL_0, eL_eq (by omega) (by omega) (by omega) (by omega)] at z; omega) ?_
                          rw [eL_div (by omega) (by omega) (by omega) (by omega)]
                          refine gi_calls 2 (q := 206) C (dm_Mo_over 100 rfl) rfl my_Mo_min lk_Mo_252 sm_Mo_min (c_Mo_min (ovA x none (some q) 6).1 (x.1.tdiv q.2.1) (by omega) (by omega) (by omega) (by omega)) rfl rfl ⟨(Nat.le_of_ble_eq_true rfl), (Nat.le_of_ble_eq_true rfl)⟩ (Nat.le_of_ble_eq_true rfl) ⟨(Nat.le_of_ble_eq_true rfl), (Nat.le_of_ble_eq_true rfl)⟩ (fun r203 n203 h203 e203 => ?_)
                          obtain ⟨rfl, q203, u203⟩ := e203
                          rw [q203, u203]
                          refine gi_lstore (q := 208) C (dm_Mo_over 101 rfl) rfl (Nat.le_of_ble_eq_true rfl) ?_
                          refine gi_lload (q := 210) C (dm_Mo_over 102 rfl) rfl rfl ?_
                          refine gi_lload (q := 212) C (dm_Mo_over 103 rfl) rfl rfl ?_
                          refine gi_lload (q := 214) C (dm_Mo_over 104 rfl) rfl rfl ?_
                          refine gi_ldiv (q := 215) C (dm_Mo_over 105 rfl) rfl (fun z => by rw [eL_0, eL_eq (by omega) (by omega) (by omega) (by omega)] at z; omega) ?_
                          rw [eL_div (by omega) (by omega) (by omega) (by omega)]
                          refine gi_calls 2 (q := 218) C (dm_Mo_over 106 rfl) rfl my_Mo_max lk_Mo_256 sm_Mo_max (c_Mo_max (ovA x none (some q) 6).2 (x.1.tdiv q.2.1) (by omega) (by omega) (by omega) (by omega)) rfl rfl ⟨(Nat.le_of_ble_eq_true rfl), (Nat.le_of_ble_eq_true rfl)⟩ (Nat.le_of_ble_eq_true rfl) ⟨(Nat.le_of_ble_eq_true rfl), (Nat.le_of_ble_eq_true rfl)⟩ (fun r215 n215 h215 e215 => ?_)
                          obtain ⟨rfl, q215, u215⟩ := e215
                          rw [q215, u215]
                          refine gi_lstore (q := 220) C (dm_Mo_over 107 rfl) rfl (Nat.le_of_ble_eq_true rfl) ?_
                          refine gi_iinc (q := 223) (v := 1) C (dm_Mo_over 108 rfl) rfl rfl (by decide) (Nat.le_of_ble_eq_true rfl) ?_
                          refine gi_goto (tgt := 105) C (dm_Mo_over 109 rfl) (by decide) ?_
                          refine gi_close (ih 7 _ ⟨by decide, rfl⟩ (by decide)) (List.forall_mem_cons.mpr ⟨rfl, List.forall_mem_cons.mpr ⟨rfl, List.forall_mem_cons.mpr ⟨rfl, List.forall_mem_cons.mpr ⟨rfl, List.forall_mem_cons.mpr ⟨rfl, List.forall_mem_cons.mpr ⟨rfl, fun _ h => absurd h List.not_mem_nil⟩⟩⟩⟩⟩⟩) rfl rfl rfl
                      · exact absurd (by decide) c175
                    · exact absurd (by decide) c161
                  · exact absurd (by decide) c148
              · exact absurd (by decide) c115
          · subst z
            have ab := ovA_b hx (N := none) (P := some q) 7
            have tb := tdv_b (a := x.2.1) (b := q.2.1) (by omega) (by omega)
            refine gi_iload (q := 107) C (dm_Mo_over 53 rfl) rfl rfl ?_
            refine gi_bipush (q := 109) (v := 8) C (dm_Mo_over 54 rfl) rfl (by decide) ?_
            refine gi_icmp_ge (q := 112) (tgt := 226) C (dm_Mo_over 55 rfl) rfl (by decide) (fun c109 => ?_) (fun c109 => ?_)
            · exact absurd c109 (by decide)
            · refine gi_iload (q := 114) C (dm_Mo_over 56 rfl) rfl rfl ?_
              refine gi_iconst (q := 115) (v := 4) C (dm_Mo_over 57 rfl) rfl (by decide) ?_
              refine gi_icmp_ge (q := 118) (tgt := 125) C (dm_Mo_over 58 rfl) rfl (by decide) (fun c115 => ?_) (fun c115 => ?_)
              · refine gi_aload_n (q := 126) (i := 0) C (dm_Mo_over 62 rfl) rfl rfl rfl ?_
                refine gi_get (q := 129) C (dm_Mo_over 63 rfl) rfl fl_Mo_330 Ha1 (mo_g30 Hf1) ?_
                refine gi_istore (q := 131) C (dm_Mo_over 64 rfl) rfl (Nat.le_of_ble_eq_true rfl) ?_
                refine gi_iload (q := 133) C (dm_Mo_over 65 rfl) rfl rfl ?_
                refine gi_iconst (q := 134) (v := 2) C (dm_Mo_over 66 rfl) rfl (by decide) ?_
                refine gi_irem (q := 135) C (dm_Mo_over 67 rfl) rfl (by decide) ?_
                refine gi_if_ne (q := 138) (tgt := 142) C (dm_Mo_over 68 rfl) rfl (by decide) (fun c135 => ?_) (fun c135 => ?_)
                · refine gi_lload_n (q := 143) (i := 3) C (dm_Mo_over 71 rfl) rfl rfl rfl ?_
                  refine gi_lstore (q := 145) C (dm_Mo_over 72 rfl) rfl (Nat.le_of_ble_eq_true rfl) ?_
                  refine gi_iload (q := 147) C (dm_Mo_over 73 rfl) rfl rfl ?_
                  refine gi_iconst (q := 148) (v := 2) C (dm_Mo_over 74 rfl) rfl (by decide) ?_
                  refine gi_icmp_ge (q := 151) (tgt := 158) C (dm_Mo_over 75 rfl) rfl (by decide) (fun c148 => ?_) (fun c148 => ?_)
                  · refine gi_iload (q := 160) C (dm_Mo_over 79 rfl) rfl rfl ?_
                    refine gi_iconst (q := 161) (v := 4) C (dm_Mo_over 80 rfl) rfl (by decide) ?_
                    refine gi_icmp_ge (q := 164) (tgt := 171) C (dm_Mo_over 81 rfl) rfl (by decide) (fun c161 => ?_) (fun c161 => ?_)
                    · refine gi_iload (q := 173) C (dm_Mo_over 85 rfl) rfl rfl ?_
                      refine gi_bipush (q := 175) (v := 6) C (dm_Mo_over 86 rfl) rfl (by decide) ?_
                      refine gi_icmp_ge (q := 178) (tgt := 185) C (dm_Mo_over 87 rfl) rfl (by decide) (fun c175 => ?_) (fun c175 => ?_)
                      · refine gi_aload_n (q := 186) (i := 0) C (dm_Mo_over 91 rfl) rfl rfl rfl ?_
                        refine gi_get (q := 189) C (dm_Mo_over 92 rfl) rfl fl_Mo_336 Ha1 (mo_g28 Hf1) ?_
                        rw [k28]
                        refine gi_lstore (q := 191) C (dm_Mo_over 93 rfl) rfl (Nat.le_of_ble_eq_true rfl) ?_
                        refine gi_iload (q := 193) C (dm_Mo_over 94 rfl) rfl rfl ?_
                        refine gi_if_eq (q := 196) (tgt := 220) C (dm_Mo_over 95 rfl) rfl (by decide) (fun c193 => ?_) (fun c193 => ?_)
                        · exact absurd c193 (by rw [t30]; decide)
                        · refine gi_lload (q := 198) C (dm_Mo_over 96 rfl) rfl rfl ?_
                          refine gi_lload (q := 200) C (dm_Mo_over 97 rfl) rfl rfl ?_
                          refine gi_lload (q := 202) C (dm_Mo_over 98 rfl) rfl rfl ?_
                          refine gi_ldiv (q := 203) C (dm_Mo_over 99 rfl) rfl (fun z => by rw [eL_0, eL_eq (by omega) (by omega) (by omega) (by omega)] at z; omega) ?_
                          rw [eL_div (by omega) (by omega) (by omega) (by omega)]
                          refine gi_calls 2 (q := 206) C (dm_Mo_over 100 rfl) rfl my_Mo_min lk_Mo_252 sm_Mo_min (c_Mo_min (ovA x none (some q) 7).1 (x.2.1.tdiv q.2.1) (by omega) (by omega) (by omega) (by omega)) rfl rfl ⟨(Nat.le_of_ble_eq_true rfl), (Nat.le_of_ble_eq_true rfl)⟩ (Nat.le_of_ble_eq_true rfl) ⟨(Nat.le_of_ble_eq_true rfl), (Nat.le_of_ble_eq_true rfl)⟩ (fun r203 n203 h203 e203 => ?_)
                          obtain ⟨rfl, q203, u203⟩ := e203
                          rw [q203, u203]
                          refine gi_lstore (q := 208) C (dm_Mo_over 101 rfl) rfl (Nat.le_of_ble_eq_true rfl) ?_
                          refine gi_lload (q := 210) C (dm_Mo_over 102 rfl) rfl rfl ?_
                          refine gi_lload (q := 212) C (dm_Mo_over 103 rfl) rfl rfl ?_
                          refine gi_lload (q := 214) C (dm_Mo_over 104 rfl) rfl rfl ?_
                          refine gi_ldiv (q := 215) C (dm_Mo_over 105 rfl) rfl (fun z => by rw [eL_0, eL_eq (by omega) (by omega) (by omega) (by omega)] at z; omega) ?_
                          rw [eL_div (by omega) (by omega) (by omega) (by omega)]
                          refine gi_calls 2 (q := 218) C (dm_Mo_over 106 rfl) rfl my_Mo_max lk_Mo_256 sm_Mo_max (c_Mo_max (ovA x none (some q) 7).2 (x.2.1.tdiv q.2.1) (by omega) (by omega) (by omega) (by omega)) rfl rfl ⟨(Nat.le_of_ble_eq_true rfl), (Nat.le_of_ble_eq_true rfl)⟩ (Nat.le_of_ble_eq_true rfl) ⟨(Nat.le_of_ble_eq_true rfl), (Nat.le_of_ble_eq_true rfl)⟩ (fun r215 n215 h215 e215 => ?_)
                          obtain ⟨rfl, q215, u215⟩ := e215
                          rw [q215, u215]
                          refine gi_lstore (q := 220) C (dm_Mo_over 107 rfl) rfl (Nat.le_of_ble_eq_true rfl) ?_
                          refine gi_iinc (q := 223) (v := 1) C (dm_Mo_over 108 rfl) rfl rfl (by decide) (Nat.le_of_ble_eq_true rfl) ?_
                          refine gi_goto (tgt := 105) C (dm_Mo_over 109 rfl) (by decide) ?_
                          refine gi_close (ih 8 _ ⟨by decide, rfl⟩ (by decide)) (List.forall_mem_cons.mpr ⟨rfl, List.forall_mem_cons.mpr ⟨rfl, List.forall_mem_cons.mpr ⟨rfl, List.forall_mem_cons.mpr ⟨rfl, List.forall_mem_cons.mpr ⟨rfl, List.forall_mem_cons.mpr ⟨rfl, fun _ h => absurd h List.not_mem_nil⟩⟩⟩⟩⟩⟩) rfl rfl rfl
                      · exact absurd (by decide) c175
                    · exact absurd (by decide) c161
                  · exact absurd (by decide) c148
                · exact absurd c135 (by decide)
              · exact absurd (by decide) c115
        · have j8 : j = 8 := by omega
          subst j8
          have ab := ovA_b hx (N := none) (P := some q) 8
          refine gi_iload (q := 107) C (dm_Mo_over 53 rfl) rfl rfl ?_
          refine gi_bipush (q := 109) (v := 8) C (dm_Mo_over 54 rfl) rfl (by decide) ?_
          refine gi_icmp_ge (q := 112) (tgt := 226) C (dm_Mo_over 55 rfl) rfl (by decide) (fun c109 => ?_) (fun c109 => ?_)
          · refine gi_aload_n (q := 227) (i := 0) C (dm_Mo_over 110 rfl) rfl rfl rfl ?_
            refine gi_lload (q := 229) C (dm_Mo_over 111 rfl) rfl rfl ?_
            refine gi_lload (q := 231) C (dm_Mo_over 112 rfl) rfl rfl ?_
            refine gi_lconst (q := 232) (v := 1) C (dm_Mo_over 113 rfl) rfl (by decide) ?_
            rw [eL_1]
            refine gi_callv 3 (q := 235) C (dm_Mo_over 114 rfl) rfl my_Mo_set lk_Mo_262 im_Mo_set rfl (c_Mo_set (ovA x none (some q) 8).1 (ovA x none (some q) 8).2 1 (by omega) (by omega) (by omega) (by omega) H1) Ha1 rfl rfl ⟨(Nat.le_of_ble_eq_true rfl), (Nat.le_of_ble_eq_true rfl)⟩ (Nat.le_of_ble_eq_true rfl) ⟨(Nat.le_of_ble_eq_true rfl), (Nat.le_of_ble_eq_true rfl)⟩ (fun r232 n232 h232 e232 => ?_)
            obtain ⟨rfl, rfl, W232⟩ := e232
            refine gi_vret C hr (dm_Mo_over 115 rfl) ?_
            rw [show overS x d = mkS (ovA x none (some q) 8).1 (ovA x none (some q) 8).2 1 from by
              unfold overS
              rw [if_neg n0, if_neg n1, en, ep]
              dsimp only
              have bq := quo_b2 (p := q) hx
              rw [ovA_p, ovA_4z, show (min ((9223372036854775807, -9223372036854775807) : Int × Int).1 (quoL x q)) = quoL x q from by dsimp only; omega, show (max ((9223372036854775807, -9223372036854775807) : Int × Int).2 (quoH x q)) = quoH x q from by dsimp only; omega]]
            exact ⟨rfl, rfl, W232.p.tr o1 r1⟩
          · exact absurd (by decide) c109
    · rw [en] at t29
      have t29 : S1 29 = 1 := t29
      rcases ep : posS d with _ | q
      · rw [ep] at t30
        have t30 : S1 30 = 0 := t30
        obtain ⟨k25, k26⟩ := tn p en
        have bn := part_n hd en
        refine gi_while (σ := Nat) (fun j => 8 - j) (fun j => [(15, .int (nI j)), (11, .long (eL (ovA x (some p) none j).1)), (13, .long (eL (ovA x (some p) none j).2)), (0, .ref M), (1, .long (eL x.1)), (3, .long (eL x.2.1))]) (fun _ => n89) (fun _ => 0) (fun _ => 0) (fun j y' => j ≤ 8 ∧ h89 = y') 0 ⟨Nat.zero_le _, rfl⟩ ?_ (List.forall_mem_cons.mpr ⟨rfl, List.forall_mem_cons.mpr ⟨rfl, List.forall_mem_cons.mpr ⟨rfl, List.forall_mem_cons.mpr ⟨rfl, List.forall_mem_cons.mpr ⟨rfl, List.forall_mem_cons.mpr ⟨rfl, fun _ h => absurd h List.not_mem_nil⟩⟩⟩⟩⟩⟩) rfl rfl rfl
        rintro j y' ⟨hj8, rfl⟩ ih
        try dsimp only at *
        rcases Nat.lt_or_ge j 8 with jl | jl
        · rcases (show j = 0 ∨ j = 1 ∨ j = 2 ∨ j = 3 ∨ j = 4 ∨ j = 5 ∨ j = 6 ∨ j = 7 by omega) with z | z | z | z | z | z | z | z
          · subst z
            have ab := ovA_b hx (N := some p) (P := none) 0
            have tb := tdv_b (a := x.1) (b := p.1) (by omega) (by omega)
            refine gi_iload (q := 107) C (dm_Mo_over 53 rfl) rfl rfl ?_
            refine gi_bipush (q := 109) (v := 8) C (dm_Mo_over 54 rfl) rfl (by decide) ?_
            refine gi_icmp_ge (q := 112) (tgt := 226) C (dm_Mo_over 55 rfl) rfl (by decide) (fun c109 => ?_) (fun c109 => ?_)
            · exact absurd c109 (by decide)
            · refine gi_iload (q := 114) C (dm_Mo_over 56 rfl) rfl rfl ?_
              refine gi_iconst (q := 115) (v := 4) C (dm_Mo_over 57 rfl) rfl (by decide) ?_
              refine gi_icmp_ge (q := 118) (tgt := 125) C (dm_Mo_over 58 rfl) rfl (by decide) (fun c115 => ?_) (fun c115 => ?_)
              · exact absurd c115 (by decide)
              · refine gi_aload_n (q := 119) (i := 0) C (dm_Mo_over 59 rfl) rfl rfl rfl ?_
                refine gi_get (q := 122) C (dm_Mo_over 60 rfl) rfl fl_Mo_321 Ha1 (mo_g29 Hf1) ?_
                refine gi_goto (tgt := 129) C (dm_Mo_over 61 rfl) (by decide) ?_
                refine gi_istore (q := 131) C (dm_Mo_over 64 rfl) rfl (Nat.le_of_ble_eq_true rfl) ?_
                refine gi_iload (q := 133) C (dm_Mo_over 65 rfl) rfl rfl ?_
                refine gi_iconst (q := 134) (v := 2) C (dm_Mo_over 66 rfl) rfl (by decide) ?_
                refine gi_irem (q := 135) C (dm_Mo_over 67 rfl) rfl (by decide) ?_
                refine gi_if_ne (q := 138) (tgt := 142) C (dm_Mo_over 68 rfl) rfl (by decide) (fun c135 => ?_) (fun c135 => ?_)
                · exact absurd (by decide) c135
                · refine gi_lload_n (q := 139) (i := 1) C (dm_Mo_over 69 rfl) rfl rfl rfl ?_
                  refine gi_goto (tgt := 143) C (dm_Mo_over 70 rfl) (by decide) ?_
                  refine gi_lstore (q := 145) C (dm_Mo_over 72 rfl) rfl (Nat.le_of_ble_eq_true rfl) ?_
                  refine gi_iload (q := 147) C (dm_Mo_over 73 rfl) rfl rfl ?_
                  refine gi_iconst (q := 148) (v := 2) C (dm_Mo_over 74 rfl) rfl (by decide) ?_
                  refine gi_icmp_ge (q := 151) (tgt := 158) C (dm_Mo_over 75 rfl) rfl (by decide) (fun c148 => ?_) (fun c148 => ?_)
                  · exact absurd c148 (by decide)
                  · refine gi_aload_n (q := 152) (i := 0) C (dm_Mo_over 76 rfl) rfl rfl rfl ?_
                    refine gi_get (q := 155) C (dm_Mo_over 77 rfl) rfl fl_Mo_324 Ha1 (mo_g25 Hf1) ?_
                    refine gi_goto (tgt := 189) C (dm_Mo_over 78 rfl) (by decide) ?_
                    rw [k25]
                    refine gi_lstore (q := 191) C (dm_Mo_over 93 rfl) rfl (Nat.le_of_ble_eq_true rfl) ?_
                    refine gi_iload (q := 193) C (dm_Mo_over 94 rfl) rfl rfl ?_
                    refine gi_if_eq (q := 196) (tgt := 220) C (dm_Mo_over 95 rfl) rfl (by decide) (fun c193 => ?_) (fun c193 => ?_)
                    · exact absurd c193 (by rw [t29]; decide)
                    · refine gi_lload (q := 198) C (dm_Mo_over 96 rfl) rfl rfl ?_
                      refine gi_lload (q := 200) C (dm_Mo_over 97 rfl) rfl rfl ?_
                      refine gi_lload (q := 202) C (dm_Mo_over 98 rfl) rfl rfl ?_
                      refine gi_ldiv (q := 203) C (dm_Mo_over 99 rfl) rfl (fun z => by rw [eL_0, eL_eq (by omega) (by omega) (by omega) (by omega)] at z; omega) ?_
                      rw [eL_div (by omega) (by omega) (by omega) (by omega)]
                      refine gi_calls 2 (q := 206) C (dm_Mo_over 100 rfl) rfl my_Mo_min lk_Mo_252 sm_Mo_min (c_Mo_min (ovA x (some p) none 0).1 (x.1.tdiv p.1) (by omega) (by omega) (by omega) (by omega)) rfl rfl ⟨(Nat.le_of_ble_eq_true rfl), (Nat.le_of_ble_eq_true rfl)⟩ (Nat.le_of_ble_eq_true rfl) ⟨(Nat.le_of_ble_eq_true rfl), (Nat.le_of_ble_eq_true rfl)⟩ (fun r203 n203 h203 e203 => ?_)
                      obtain ⟨rfl, q203, u203⟩ := e203
                      rw [q203, u203]
                      refine gi_lstore (q := 208) C (dm_Mo_over 101 rfl) rfl (Nat.le_of_ble_eq_true rfl) ?_
                      refine gi_lload (q := 210) C (dm_Mo_over 102 rfl) rfl rfl ?_
                      refine gi_lload (q := 212) C (dm_Mo_over 103 rfl) rfl rfl ?_
                      refine gi_lload (q := 214) C (dm_Mo_over 104 rfl) rfl rfl ?_
                      refine gi_ldiv (q := 215) C (dm_Mo_over 105 rfl) rfl (fun z => by rw [eL_0, eL_eq (by omega) (by omega) (by omega) (by omega)] at z; omega) ?_
                      rw [eL_div (by omega) (by omega) (by omega) (by omega)]
                      refine gi_calls 2 (q := 218) C (dm_Mo_over 106 rfl) rfl my_Mo_max lk_Mo_256 sm_Mo_max (c_Mo_max (ovA x (some p) none 0).2 (x.1.tdiv p.1) (by omega) (by omega) (by omega) (by omega)) rfl rfl ⟨(Nat.le_of_ble_eq_true rfl), (Nat.le_of_ble_eq_true rfl)⟩ (Nat.le_of_ble_eq_true rfl) ⟨(Nat.le_of_ble_eq_true rfl), (Nat.le_of_ble_eq_true rfl)⟩ (fun r215 n215 h215 e215 => ?_)
                      obtain ⟨rfl, q215, u215⟩ := e215
                      rw [q215, u215]
                      refine gi_lstore (q := 220) C (dm_Mo_over 107 rfl) rfl (Nat.le_of_ble_eq_true rfl) ?_
                      refine gi_iinc (q := 223) (v := 1) C (dm_Mo_over 108 rfl) rfl rfl (by decide) (Nat.le_of_ble_eq_true rfl) ?_
                      refine gi_goto (tgt := 105) C (dm_Mo_over 109 rfl) (by decide) ?_
                      refine gi_close (ih 1 _ ⟨by decide, rfl⟩ (by decide)) (List.forall_mem_cons.mpr ⟨rfl, List.forall_mem_cons.mpr ⟨rfl, List.forall_mem_cons.mpr ⟨rfl, List.forall_mem_cons.mpr ⟨rfl, List.forall_mem_cons.mpr ⟨rfl, List.forall_mem_cons.mpr ⟨rfl, fun _ h => absurd h List.not_mem_nil⟩⟩⟩⟩⟩⟩) rfl rfl rfl
          · subst z
            have ab := ovA_b hx (N := some p) (P := none) 1
            have tb := tdv_b (a := x.2.1) (b := p.1) (by omega) (by omega)
            refine gi_iload (q := 107) C (dm_Mo_over 53 rfl) rfl rfl ?_
            refine gi_bipush (q := 109) (v := 8) C (dm_Mo_over 54 rfl) rfl (by decide) ?_
            refine gi_icmp_ge (q := 112) (tgt := 226) C (dm_Mo_over 55 rfl) rfl (by decide) (fun c109 => ?_) (fun c109 => ?_)
            · exact absurd c109 (by decide)
            · refine gi_iload (q := 114) C (dm_Mo_over 56 rfl) rfl rfl ?_
              refine gi_iconst (q := 115) (v := 4) C (dm_Mo_over 57 rfl) rfl (by decide) ?_
              refine gi_icmp_ge (q := 118) (tgt := 125) C (dm_Mo_over 58 rfl) rfl (by decide) (fun c115 => ?_) (fun c115 => ?_)
              · exact absurd c115 (by decide)
              · refine gi_aload_n (q := 119) (i := 0) C (dm_Mo_over 59 rfl) rfl rfl rfl ?_
                refine gi_get (q := 122) C (dm_Mo_over 60 rfl) rfl fl_Mo_321 Ha1 (mo_g29 Hf1) ?_
                refine gi_goto (tgt := 129) C (dm_Mo_over 61 rfl) (by decide) ?_
                refine gi_istore (q := 131) C (dm_Mo_over 64 rfl) rfl (Nat.le_of_ble_eq_true rfl) ?_
                refine gi_iload (q := 133) C (dm_Mo_over 65 rfl) rfl rfl ?_
                refine gi_iconst (q := 134) (v := 2) C (dm_Mo_over 66 rfl) rfl (by decide) ?_
                refine gi_irem (q := 135) C (dm_Mo_over 67 rfl) rfl (by decide) ?_
                refine gi_if_ne (q := 138) (tgt := 142) C (dm_Mo_over 68 rfl) rfl (by decide) (fun c135 => ?_) (fun c135 => ?_)
                · refine gi_lload_n (q := 143) (i := 3) C (dm_Mo_over 71 rfl) rfl rfl rfl ?_
                  refine gi_lstore (q := 145) C (dm_Mo_over 72 rfl) rfl (Nat.le_of_ble_eq_true rfl) ?_
                  refine gi_iload (q := 147) C (dm_Mo_over 73 rfl) rfl rfl ?_
                  refine gi_iconst (q := 148) (v := 2) C (dm_Mo_over 74 rfl) rfl (by decide) ?_
                  refine gi_icmp_ge (q := 151) (tgt := 158) C (dm_Mo_over 75 rfl) rfl (by decide) (fun c148 => ?_) (fun c148 => ?_)
                  · exact absurd c148 (by decide)
                  · refine gi_aload_n (q := 152) (i := 0) C (dm_Mo_over 76 rfl) rfl rfl rfl ?_
                    refine gi_get (q := 155) C (dm_Mo_over 77 rfl) rfl fl_Mo_324 Ha1 (mo_g25 Hf1) ?_
                    refine gi_goto (tgt := 189) C (dm_Mo_over 78 rfl) (by decide) ?_
                    rw [k25]
                    refine gi_lstore (q := 191) C (dm_Mo_over 93 rfl) rfl (Nat.le_of_ble_eq_true rfl) ?_
                    refine gi_iload (q := 193) C (dm_Mo_over 94 rfl) rfl rfl ?_
                    refine gi_if_eq (q := 196) (tgt := 220) C (dm_Mo_over 95 rfl) rfl (by decide) (fun c193 => ?_) (fun c193 => ?_)
                    · exact absurd c193 (by rw [t29]; decide)
                    · refine gi_lload (q := 198) C (dm_Mo_over 96 rfl) rfl rfl ?_
                      refine gi_lload (q := 200) C (dm_Mo_over 97 rfl) rfl rfl ?_
                      refine gi_lload (q := 202) C (dm_Mo_over 98 rfl) rfl rfl ?_
                      refine gi_ldiv (q := 203) C (dm_Mo_over 99 rfl) rfl (fun z => by rw [eL_0, eL_eq (by omega) (by omega) (by omega) (by omega)] at z; omega) ?_
                      rw [eL_div (by omega) (by omega) (by omega) (by omega)]
                      refine gi_calls 2 (q := 206) C (dm_Mo_over 100 rfl) rfl my_Mo_min lk_Mo_252 sm_Mo_min (c_Mo_min (ovA x (some p) none 1).1 (x.2.1.tdiv p.1) (by omega) (by omega) (by omega) (by omega)) rfl rfl ⟨(Nat.le_of_ble_eq_true rfl), (Nat.le_of_ble_eq_true rfl)⟩ (Nat.le_of_ble_eq_true rfl) ⟨(Nat.le_of_ble_eq_true rfl), (Nat.le_of_ble_eq_true rfl)⟩ (fun r203 n203 h203 e203 => ?_)
                      obtain ⟨rfl, q203, u203⟩ := e203
                      rw [q203, u203]
                      refine gi_lstore (q := 208) C (dm_Mo_over 101 rfl) rfl (Nat.le_of_ble_eq_true rfl) ?_
                      refine gi_lload (q := 210) C (dm_Mo_over 102 rfl) rfl rfl ?_
                      refine gi_lload (q := 212) C (dm_Mo_over 103 rfl) rfl rfl ?_
                      refine gi_lload (q := 214) C (dm_Mo_over 104 rfl) rfl rfl ?_
                      refine gi_ldiv (q := 215) C (dm_Mo_over 105 rfl) rfl (fun z => by rw [eL_0, eL_eq (by omega) (by omega) (by omega) (by omega)] at z; omega) ?_
                      rw [eL_div (by omega) (by omega) (by omega) (by omega)]
                      refine gi_calls 2 (q := 218) C (dm_Mo_over 106 rfl) rfl my_Mo_max lk_Mo_256 sm_Mo_max (c_Mo_max (ovA x (some p) none 1).2 (x.2.1.tdiv p.1) (by omega) (by omega) (by omega) (by omega)) rfl rfl ⟨(Nat.le_of_ble_eq_true rfl), (Nat.le_of_ble_eq_true rfl)⟩ (Nat.le_of_ble_eq_true rfl) ⟨(Nat.le_of_ble_eq_true rfl), (Nat.le_of_ble_eq_true rfl)⟩ (fun r215 n215 h215 e215 => ?_)
                      obtain ⟨rfl, q215, u215⟩ := e215
                      rw [q215, u215]
                      refine gi_lstore (q := 220) C (dm_Mo_over 107 rfl) rfl (Nat.le_of_ble_eq_true rfl) ?_
                      refine gi_iinc (q := 223) (v := 1) C (dm_Mo_over 108 rfl) rfl rfl (by decide) (Nat.le_of_ble_eq_true rfl) ?_
                      refine gi_goto (tgt := 105) C (dm_Mo_over 109 rfl) (by decide) ?_
                      refine gi_close (ih 2 _ ⟨by decide, rfl⟩ (by decide)) (List.forall_mem_cons.mpr ⟨rfl, List.forall_mem_cons.mpr ⟨rfl, List.forall_mem_cons.mpr ⟨rfl, List.forall_mem_cons.mpr ⟨rfl, List.forall_mem_cons.mpr ⟨rfl, List.forall_mem_cons.mpr ⟨rfl, fun _ h => absurd h List.not_mem_nil⟩⟩⟩⟩⟩⟩) rfl rfl rfl
                · exact absurd c135 (by decide)
          · subst z
            have ab := ovA_b hx (N := some p) (P := none) 2
            have tb := tdv_b (a := x.1) (b := p.2.1) (by omega) (by omega)
            refine gi_iload (q := 107) C (dm_Mo_over 53 rfl) rfl rfl ?_
            refine gi_bipush (q := 109) (v := 8) C (dm_Mo_over 54 rfl) rfl (by decide) ?_
            refine gi_icmp_ge (q := 112) (tgt := 226) C (dm_Mo_over 55 rfl) rfl (by decide) (fun c109 => ?_) (fun c109 => ?_)
            · exact absurd c109 (by decide)
            · refine gi_iload (q := 114) C (dm_Mo_over 56 rfl) rfl rfl ?_
              refine gi_iconst (q := 115) (v := 4) C (dm_Mo_over 57 rfl) rfl (by decide) ?_
              refine gi_icmp_ge (q := 118) (tgt := 125) C (dm_Mo_over 58 rfl) rfl (by decide) (fun c115 => ?_) (fun c115 => ?_)
              · exact absurd c115 (by decide)
              · refine gi_aload_n (q := 119) (i := 0) C (dm_Mo_over 59 rfl) rfl rfl rfl ?_
                refine gi_get (q := 122) C (dm_Mo_over 60 rfl) rfl fl_Mo_321 Ha1 (mo_g29 Hf1) ?_
                refine gi_goto (tgt := 129) C (dm_Mo_over 61 rfl) (by decide) ?_
                refine gi_istore (q := 131) C (dm_Mo_over 64 rfl) rfl (Nat.le_of_ble_eq_true rfl) ?_
                refine gi_iload (q := 133) C (dm_Mo_over 65 rfl) rfl rfl ?_
                refine gi_iconst (q := 134) (v := 2) C (dm_Mo_over 66 rfl) rfl (by decide) ?_
                refine gi_irem (q := 135) C (dm_Mo_over 67 rfl) rfl (by decide) ?_
                refine gi_if_ne (q := 138) (tgt := 142) C (dm_Mo_over 68 rfl) rfl (by decide) (fun c135 => ?_) (fun c135 => ?_)
                · exact absurd (by decide) c135
                · refine gi_lload_n (q := 139) (i := 1) C (dm_Mo_over 69 rfl) rfl rfl rfl ?_
                  refine gi_goto (tgt := 143) C (dm_Mo_over 70 rfl) (by decide) ?_
                  refine gi_lstore (q := 145) C (dm_Mo_over 72 rfl) rfl (Nat.le_of_ble_eq_true rfl) ?_
                  refine gi_iload (q := 147) C (dm_Mo_over 73 rfl) rfl rfl ?_
                  refine gi_iconst (q := 148) (v := 2) C (dm_Mo_over 74 rfl) rfl (by decide) ?_
                  refine gi_icmp_ge (q := 151) (tgt := 158) C (dm_Mo_over 75 rfl) rfl (by decide) (fun c148 => ?_) (fun c148 => ?_)
                  · refine gi_iload (q := 160) C (dm_Mo_over 79 rfl) rfl rfl ?_
                    refine gi_iconst (q := 161) (v := 4) C (dm_Mo_over 80 rfl) rfl (by decide) ?_
                    refine gi_icmp_ge (q := 164) (tgt := 171) C (dm_Mo_over 81 rfl) rfl (by decide) (fun c161 => ?_) (fun c161 => ?_)
                    · exact absurd c161 (by decide)
                    · refine gi_aload_n (q := 165) (i := 0) C (dm_Mo_over 82 rfl) rfl rfl rfl ?_
                      refine gi_get (q := 168) C (dm_Mo_over 83 rfl) rfl fl_Mo_327 Ha1 (mo_g26 Hf1) ?_
                      refine gi_goto (tgt := 189) C (dm_Mo_over 84 rfl) (by decide) ?_
                      rw [k26]
                      refine gi_lstore (q := 191) C (dm_Mo_over 93 rfl) rfl (Nat.le_of_ble_eq_true rfl) ?_
                      refine gi_iload (q := 193) C (dm_Mo_over 94 rfl) rfl rfl ?_
                      refine gi_if_eq (q := 196) (tgt := 220) C (dm_Mo_over 95 rfl) rfl (by decide) (fun c193 => ?_) (fun c193 => ?_)
                      · exact absurd c193 (by rw [t29]; decide)
                      · refine gi_lload (q := 198) C (dm_Mo_over 96 rfl) rfl rfl ?_
                        refine gi_lload (q := 200) C (dm_Mo_over 97 rfl) rfl rfl ?_
                        refine gi_lload (q := 202) C (dm_Mo_over 98 rfl) rfl rfl ?_
                        refine gi_ldiv (q := 203) C (dm_Mo_over 99 rfl) rfl (fun z => by rw [eL_0, eL_eq (by omega) (by omega) (by omega) (by omega)] at z; omega) ?_
                        rw [eL_div (by omega) (by omega) (by omega) (by omega)]
                        refine gi_calls 2 (q := 206) C (dm_Mo_over 100 rfl) rfl my_Mo_min lk_Mo_252 sm_Mo_min (c_Mo_min (ovA x (some p) none 2).1 (x.1.tdiv p.2.1) (by omega) (by omega) (by omega) (by omega)) rfl rfl ⟨(Nat.le_of_ble_eq_true rfl), (Nat.le_of_ble_eq_true rfl)⟩ (Nat.le_of_ble_eq_true rfl) ⟨(Nat.le_of_ble_eq_true rfl), (Nat.le_of_ble_eq_true rfl)⟩ (fun r203 n203 h203 e203 => ?_)
                        obtain ⟨rfl, q203, u203⟩ := e203
                        rw [q203, u203]
                        refine gi_lstore (q := 208) C (dm_Mo_over 101 rfl) rfl (Nat.le_of_ble_eq_true rfl) ?_
                        refine gi_lload (q := 210) C (dm_Mo_over 102 rfl) rfl rfl ?_
                        refine gi_lload (q := 212) C (dm_Mo_over 103 rfl) rfl rfl ?_
                        refine gi_lload (q := 214) C (dm_Mo_over 104 rfl) rfl rfl ?_
                        refine gi_ldiv (q := 215) C (dm_Mo_over 105 rfl) rfl (fun z => by rw [eL_0, eL_eq (by omega) (by omega) (by omega) (by omega)] at z; omega) ?_
                        rw [eL_div (by omega) (by omega) (by omega) (by omega)]
                        refine gi_calls 2 (q := 218) C (dm_Mo_over 106 rfl) rfl my_Mo_max lk_Mo_256 sm_Mo_max (c_Mo_max (ovA x (some p) none 2).2 (x.1.tdiv p.2.1) (by omega) (by omega) (by omega) (by omega)) rfl rfl ⟨(Nat.le_of_ble_eq_true rfl), (Nat.le_of_ble_eq_true rfl)⟩ (Nat.le_of_ble_eq_true rfl) ⟨(Nat.le_of_ble_eq_true rfl), (Nat.le_of_ble_eq_true rfl)⟩ (fun r215 n215 h215 e215 => ?_)
                        obtain ⟨rfl, q215, u215⟩ := e215
                        rw [q215, u215]
                        refine gi_lstore (q := 220) C (dm_Mo_over 107 rfl) rfl (Nat.le_of_ble_eq_true rfl) ?_
                        refine gi_iinc (q := 223) (v := 1) C (dm_Mo_over 108 rfl) rfl rfl (by decide) (Nat.le_of_ble_eq_true rfl) ?_
                        refine gi_goto (tgt := 105) C (dm_Mo_over 109 rfl) (by decide) ?_
                        refine gi_close (ih 3 _ ⟨by decide, rfl⟩ (by decide)) (List.forall_mem_cons.mpr ⟨rfl, List.forall_mem_cons.mpr ⟨rfl, List.forall_mem_cons.mpr ⟨rfl, List.forall_mem_cons.mpr ⟨rfl, List.forall_mem_cons.mpr ⟨rfl, List.forall_mem_cons.mpr ⟨rfl, fun _ h => absurd h List.not_mem_nil⟩⟩⟩⟩⟩⟩) rfl rfl rfl
                  · exact absurd (by decide) c148
          · subst z
            have ab := ovA_b hx (N := some p) (P := none) 3
            have tb := tdv_b (a := x.2.1) (b := p.2.1) (by omega) (by omega)
            refine gi_iload (q := 107) C (dm_Mo_over 53 rfl) rfl rfl ?_
            refine gi_bipush (q := 109) (v := 8) C (dm_Mo_over 54 rfl) rfl (by decide) ?_
            refine gi_icmp_ge (q := 112) (tgt := 226) C (dm_Mo_over 55 rfl) rfl (by decide) (fun c109 => ?_) (fun c109 => ?_)
            · exact absurd c109 (by decide)
            · refine gi_iload (q := 114) C (dm_Mo_over 56 rfl) rfl rfl ?_
              refine gi_iconst (q := 115) (v := 4) C (dm_Mo_over 57 rfl) rfl (by decide) ?_
              refine gi_icmp_ge (q := 118) (tgt := 125) C (dm_Mo_over 58 rfl) rfl (by decide) (fun c115 => ?_) (fun c115 => ?_)
              · exact absurd c115 (by decide)
              · refine gi_aload_n (q := 119) (i := 0) C (dm_Mo_over 59 rfl) rfl rfl rfl ?_
                refine gi_get (q := 122) C (dm_Mo_over 60 rfl) rfl fl_Mo_321 Ha1 (mo_g29 Hf1) ?_
                refine gi_goto (tgt := 129) C (dm_Mo_over 61 rfl) (by decide) ?_
                refine gi_istore (q := 131) C (dm_Mo_over 64 rfl) rfl (Nat.le_of_ble_eq_true rfl) ?_
                refine gi_iload (q := 133) C (dm_Mo_over 65 rfl) rfl rfl ?_
                refine gi_iconst (q := 134) (v := 2) C (dm_Mo_over 66 rfl) rfl (by decide) ?_
                refine gi_irem (q := 135) C (dm_Mo_over 67 rfl) rfl (by decide) ?_
                refine gi_if_ne (q := 138) (tgt := 142) C (dm_Mo_over 68 rfl) rfl (by decide) (fun c135 => ?_) (fun c135 => ?_)
                · refine gi_lload_n (q := 143) (i := 3) C (dm_Mo_over 71 rfl) rfl rfl rfl ?_
                  refine gi_lstore (q := 145) C (dm_Mo_over 72 rfl) rfl (Nat.le_of_ble_eq_true rfl) ?_
                  refine gi_iload (q := 147) C (dm_Mo_over 73 rfl) rfl rfl ?_
                  refine gi_iconst (q := 148) (v := 2) C (dm_Mo_over 74 rfl) rfl (by decide) ?_
                  refine gi_icmp_ge (q := 151) (tgt := 158) C (dm_Mo_over 75 rfl) rfl (by decide) (fun c148 => ?_) (fun c148 => ?_)
                  · refine gi_iload (q := 160) C (dm_Mo_over 79 rfl) rfl rfl ?_
                    refine gi_iconst (q := 161) (v := 4) C (dm_Mo_over 80 rfl) rfl (by decide) ?_
                    refine gi_icmp_ge (q := 164) (tgt := 171) C (dm_Mo_over 81 rfl) rfl (by decide) (fun c161 => ?_) (fun c161 => ?_)
                    · exact absurd c161 (by decide)
                    · refine gi_aload_n (q := 165) (i := 0) C (dm_Mo_over 82 rfl) rfl rfl rfl ?_
                      refine gi_get (q := 168) C (dm_Mo_over 83 rfl) rfl fl_Mo_327 Ha1 (mo_g26 Hf1) ?_
                      refine gi_goto (tgt := 189) C (dm_Mo_over 84 rfl) (by decide) ?_
                      rw [k26]
                      refine gi_lstore (q := 191) C (dm_Mo_over 93 rfl) rfl (Nat.le_of_ble_eq_true rfl) ?_
                      refine gi_iload (q := 193) C (dm_Mo_over 94 rfl) rfl rfl ?_
                      refine gi_if_eq (q := 196) (tgt := 220) C (dm_Mo_over 95 rfl) rfl (by decide) (fun c193 => ?_) (fun c193 => ?_)
                      · exact absurd c193 (by rw [t29]; decide)
                      · refine gi_lload (q := 198) C (dm_Mo_over 96 rfl) rfl rfl ?_
                        refine gi_lload (q := 200) C (dm_Mo_over 97 rfl) rfl rfl ?_
                        refine gi_lload (q := 202) C (dm_Mo_over 98 rfl) rfl rfl ?_
                        refine gi_ldiv (q := 203) C (dm_Mo_over 99 rfl) rfl (fun z => by rw [eL_0, eL_eq (by omega) (by omega) (by omega) (by omega)] at z; omega) ?_
                        rw [eL_div (by omega) (by omega) (by omega) (by omega)]
                        refine gi_calls 2 (q := 206) C (dm_Mo_over 100 rfl) rfl my_Mo_min lk_Mo_252 sm_Mo_min (c_Mo_min (ovA x (some p) none 3).1 (x.2.1.tdiv p.2.1) (by omega) (by omega) (by omega) (by omega)) rfl rfl ⟨(Nat.le_of_ble_eq_true rfl), (Nat.le_of_ble_eq_true rfl)⟩ (Nat.le_of_ble_eq_true rfl) ⟨(Nat.le_of_ble_eq_true rfl), (Nat.le_of_ble_eq_true rfl)⟩ (fun r203 n203 h203 e203 => ?_)
                        obtain ⟨rfl, q203, u203⟩ := e203
                        rw [q203, u203]
                        refine gi_lstore (q := 208) C (dm_Mo_over 101 rfl) rfl (Nat.le_of_ble_eq_true rfl) ?_
                        refine gi_lload (q := 210) C (dm_Mo_over 102 rfl) rfl rfl ?_
                        refine gi_lload (q := 212) C (dm_Mo_over 103 rfl) rfl rfl ?_
                        refine gi_lload (q := 214) C (dm_Mo_over 104 rfl) rfl rfl ?_
                        refine gi_ldiv (q := 215) C (dm_Mo_over 105 rfl) rfl (fun z => by rw [eL_0, eL_eq (by omega) (by omega) (by omega) (by omega)] at z; omega) ?_
                        rw [eL_div (by omega) (by omega) (by omega) (by omega)]
                        refine gi_calls 2 (q := 218) C (dm_Mo_over 106 rfl) rfl my_Mo_max lk_Mo_256 sm_Mo_max (c_Mo_max (ovA x (some p) none 3).2 (x.2.1.tdiv p.2.1) (by omega) (by omega) (by omega) (by omega)) rfl rfl ⟨(Nat.le_of_ble_eq_true rfl), (Nat.le_of_ble_eq_true rfl)⟩ (Nat.le_of_ble_eq_true rfl) ⟨(Nat.le_of_ble_eq_true rfl), (Nat.le_of_ble_eq_true rfl)⟩ (fun r215 n215 h215 e215 => ?_)
                        obtain ⟨rfl, q215, u215⟩ := e215
                        rw [q215, u215]
                        refine gi_lstore (q := 220) C (dm_Mo_over 107 rfl) rfl (Nat.le_of_ble_eq_true rfl) ?_
                        refine gi_iinc (q := 223) (v := 1) C (dm_Mo_over 108 rfl) rfl rfl (by decide) (Nat.le_of_ble_eq_true rfl) ?_
                        refine gi_goto (tgt := 105) C (dm_Mo_over 109 rfl) (by decide) ?_
                        refine gi_close (ih 4 _ ⟨by decide, rfl⟩ (by decide)) (List.forall_mem_cons.mpr ⟨rfl, List.forall_mem_cons.mpr ⟨rfl, List.forall_mem_cons.mpr ⟨rfl, List.forall_mem_cons.mpr ⟨rfl, List.forall_mem_cons.mpr ⟨rfl, List.forall_mem_cons.mpr ⟨rfl, fun _ h => absurd h List.not_mem_nil⟩⟩⟩⟩⟩⟩) rfl rfl rfl
                  · exact absurd (by decide) c148
                · exact absurd c135 (by decide)
          · subst z
            have ab := ovA_b hx (N := some p) (P := none) 4
            refine gi_iload (q := 107) C (dm_Mo_over 53 rfl) rfl rfl ?_
            refine gi_bipush (q := 109) (v := 8) C (dm_Mo_over 54 rfl) rfl (by decide) ?_
            refine gi_icmp_ge (q := 112) (tgt := 226) C (dm_Mo_over 55 rfl) rfl (by decide) (fun c109 => ?_) (fun c109 => ?_)
            · exact absurd c109 (by decide)
            · refine gi_iload (q := 114) C (dm_Mo_over 56 rfl) rfl rfl ?_
              refine gi_iconst (q := 115) (v := 4) C (dm_Mo_over 57 rfl) rfl (by decide) ?_
              refine gi_icmp_ge (q := 118) (tgt := 125) C (dm_Mo_over 58 rfl) rfl (by decide) (fun c115 => ?_) (fun c115 => ?_)
              · refine gi_aload_n (q := 126) (i := 0) C (dm_Mo_over 62 rfl) rfl rfl rfl ?_
                refine gi_get (q := 129) C (dm_Mo_over 63 rfl) rfl fl_Mo_330 Ha1 (mo_g30 Hf1) ?_
                refine gi_istore (q := 131) C (dm_Mo_over 64 rfl) rfl (Nat.le_of_ble_eq_true rfl) ?_
                refine gi_iload (q := 133) C (dm_Mo_over 65 rfl) rfl rfl ?_
                refine gi_iconst (q := 134) (v := 2) C (dm_Mo_over 66 rfl) rfl (by decide) ?_
                refine gi_irem (q := 135) C (dm_Mo_over 67 rfl) rfl (by decide) ?_
                refine gi_if_ne (q := 138) (tgt := 142) C (dm_Mo_over 68 rfl) rfl (by decide) (fun c135 => ?_) (fun c135 => ?_)
                · exact absurd (by decide) c135
                · refine gi_lload_n (q := 139) (i := 1) C (dm_Mo_over 69 rfl) rfl rfl rfl ?_
                  refine gi_goto (tgt := 143) C (dm_Mo_over 70 rfl) (by decide) ?_
                  refine gi_lstore (q := 145) C (dm_Mo_over 72 rfl) rfl (Nat.le_of_ble_eq_true rfl) ?_
                  refine gi_iload (q := 147) C (dm_Mo_over 73 rfl) rfl rfl ?_
                  refine gi_iconst (q := 148) (v := 2) C (dm_Mo_over 74 rfl) rfl (by decide) ?_
                  refine gi_icmp_ge (q := 151) (tgt := 158) C (dm_Mo_over 75 rfl) rfl (by decide) (fun c148 => ?_) (fun c148 => ?_)
                  · refine gi_iload (q := 160) C (dm_Mo_over 79 rfl) rfl rfl ?_
                    refine gi_iconst (q := 161) (v := 4) C (dm_Mo_over 80 rfl) rfl (by decide) ?_
                    refine gi_icmp_ge (q := 164) (tgt := 171) C (dm_Mo_over 81 rfl) rfl (by decide) (fun c161 => ?_) (fun c161 => ?_)
                    · refine gi_iload (q := 173) C (dm_Mo_over 85 rfl) rfl rfl ?_
                      refine gi_bipush (q := 175) (v := 6) C (dm_Mo_over 86 rfl) rfl (by decide) ?_
                      refine gi_icmp_ge (q := 178) (tgt := 185) C (dm_Mo_over 87 rfl) rfl (by decide) (fun c175 => ?_) (fun c175 => ?_)
                      · exact absurd c175 (by decide)
                      · refine gi_aload_n (q := 179) (i := 0) C (dm_Mo_over 88 rfl) rfl rfl rfl ?_
                        refine gi_get (q := 182) C (dm_Mo_over 89 rfl) rfl fl_Mo_333 Ha1 (mo_g27 Hf1) ?_
                        refine gi_goto (tgt := 189) C (dm_Mo_over 90 rfl) (by decide) ?_
                        skip
                        refine gi_lstore (q := 191) C (dm_Mo_over 93 rfl) rfl (Nat.le_of_ble_eq_true rfl) ?_
                        refine gi_iload (q := 193) C (dm_Mo_over 94 rfl) rfl rfl ?_
                        refine gi_if_eq (q := 196) (tgt := 220) C (dm_Mo_over 95 rfl) rfl (by decide) (fun c193 => ?_) (fun c193 => ?_)
                        · refine gi_iinc (q := 223) (v := 1) C (dm_Mo_over 108 rfl) rfl rfl (by decide) (Nat.le_of_ble_eq_true rfl) ?_
                          refine gi_goto (tgt := 105) C (dm_Mo_over 109 rfl) (by decide) ?_
                          refine gi_close (ih 5 _ ⟨by decide, rfl⟩ (by decide)) (List.forall_mem_cons.mpr ⟨rfl, List.forall_mem_cons.mpr ⟨rfl, List.forall_mem_cons.mpr ⟨rfl, List.forall_mem_cons.mpr ⟨rfl, List.forall_mem_cons.mpr ⟨rfl, List.forall_mem_cons.mpr ⟨rfl, fun _ h => absurd h List.not_mem_nil⟩⟩⟩⟩⟩⟩) rfl rfl rfl
                        · exact absurd t30 c193
                    · exact absurd (by decide) c161
                  · exact absurd (by decide) c148
              · exact absurd (by decide) c115
          · subst z
            have ab := ovA_b hx (N := some p) (P := none) 5
            refine gi_iload (q := 107) C (dm_Mo_over 53 rfl) rfl rfl ?_
            refine gi_bipush (q := 109) (v := 8) C (dm_Mo_over 54 rfl) rfl (by decide) ?_
            refine gi_icmp_ge (q := 112) (tgt := 226) C (dm_Mo_over 55 rfl) rfl (by decide) (fun c109 => ?_) (fun c109 => ?_)
            · exact absurd c109 (by decide)
            · refine gi_iload (q := 114) C (dm_Mo_over 56 rfl) rfl rfl ?_
              refine gi_iconst (q := 115) (v := 4) C (dm_Mo_over 57 rfl) rfl (by decide) ?_
              refine gi_icmp_ge (q := 118) (tgt := 125) C (dm_Mo_over 58 rfl) rfl (by decide) (fun c115 => ?_) (fun c115 => ?_)
              · refine gi_aload_n (q := 126) (i := 0) C (dm_Mo_over 62 rfl) rfl rfl rfl ?_
                refine gi_get (q := 129) C (dm_Mo_over 63 rfl) rfl fl_Mo_330 Ha1 (mo_g30 Hf1) ?_
                refine gi_istore (q := 131) C (dm_Mo_over 64 rfl) rfl (Nat.le_of_ble_eq_true rfl) ?_
                refine gi_iload (q := 133) C (dm_Mo_over 65 rfl) rfl rfl ?_
                refine gi_iconst (q := 134) (v := 2) C (dm_Mo_over 66 rfl) rfl (by decide) ?_
                refine gi_irem (q := 135) C (dm_Mo_over 67 rfl) rfl (by decide) ?_
                refine gi_if_ne (q := 138) (tgt := 142) C (dm_Mo_over 68 rfl) rfl (by decide) (fun c135 => ?_) (fun c135 => ?_)
                · refine gi_lload_n (q := 143) (i := 3) C (dm_Mo_over 71 rfl) rfl rfl rfl ?_
                  refine gi_lstore (q := 145) C (dm_Mo_over 72 rfl) rfl (Nat.le_of_ble_eq_true rfl) ?_
                  refine gi_iload (q := 147) C (dm_Mo_over 73 rfl) rfl rfl ?_
                  refine gi_iconst (q := 148) (v := 2) C (dm_Mo_over 74 rfl) rfl (by decide) ?_
                  refine gi_icmp_ge (q := 151) (tgt := 158) C (dm_Mo_over 75 rfl) rfl (by decide) (fun c148 => ?_) (fun c148 => ?_)
                  · refine gi_iload (q := 160) C (dm_Mo_over 79 rfl) rfl rfl ?_
                    refine gi_iconst (q := 161) (v := 4) C (dm_Mo_over 80 rfl) rfl (by decide) ?_
                    refine gi_icmp_ge (q := 164) (tgt := 171) C (dm_Mo_over 81 rfl) rfl (by decide) (fun c161 => ?_) (fun c161 => ?_)
                    · refine gi_iload (q := 173) C (dm_Mo_over 85 rfl) rfl rfl ?_
                      refine gi_bipush (q := 175) (v := 6) C (dm_Mo_over 86 rfl) rfl (by decide) ?_
                      refine gi_icmp_ge (q := 178) (tgt := 185) C (dm_Mo_over 87 rfl) rfl (by decide) (fun c175 => ?_) (fun c175 => ?_)
                      · exact absurd c175 (by decide)
                      · refine gi_aload_n (q := 179) (i := 0) C (dm_Mo_over 88 rfl) rfl rfl rfl ?_
                        refine gi_get (q := 182) C (dm_Mo_over 89 rfl) rfl fl_Mo_333 Ha1 (mo_g27 Hf1) ?_
                        refine gi_goto (tgt := 189) C (dm_Mo_over 90 rfl) (by decide) ?_
                        skip
                        refine gi_lstore (q := 191) C (dm_Mo_over 93 rfl) rfl (Nat.le_of_ble_eq_true rfl) ?_
                        refine gi_iload (q := 193) C (dm_Mo_over 94 rfl) rfl rfl ?_
                        refine gi_if_eq (q := 196) (tgt := 220) C (dm_Mo_over 95 rfl) rfl (by decide) (fun c193 => ?_) (fun c193 => ?_)
                        · refine gi_iinc (q := 223) (v := 1) C (dm_Mo_over 108 rfl) rfl rfl (by decide) (Nat.le_of_ble_eq_true rfl) ?_
                          refine gi_goto (tgt := 105) C (dm_Mo_over 109 rfl) (by decide) ?_
                          refine gi_close (ih 6 _ ⟨by decide, rfl⟩ (by decide)) (List.forall_mem_cons.mpr ⟨rfl, List.forall_mem_cons.mpr ⟨rfl, List.forall_mem_cons.mpr ⟨rfl, List.forall_mem_cons.mpr ⟨rfl, List.forall_mem_cons.mpr ⟨rfl, List.forall_mem_cons.mpr ⟨rfl, fun _ h => absurd h List.not_mem_nil⟩⟩⟩⟩⟩⟩) rfl rfl rfl
                        · exact absurd t30 c193
                    · exact absurd (by decide) c161
                  · exact absurd (by decide) c148
                · exact absurd c135 (by decide)
              · exact absurd (by decide) c115
          · subst z
            have ab := ovA_b hx (N := some p) (P := none) 6
            refine gi_iload (q := 107) C (dm_Mo_over 53 rfl) rfl rfl ?_
            refine gi_bipush (q := 109) (v := 8) C (dm_Mo_over 54 rfl) rfl (by decide) ?_
            refine gi_icmp_ge (q := 112) (tgt := 226) C (dm_Mo_over 55 rfl) rfl (by decide) (fun c109 => ?_) (fun c109 => ?_)
            · exact absurd c109 (by decide)
            · refine gi_iload (q := 114) C (dm_Mo_over 56 rfl) rfl rfl ?_
              refine gi_iconst (q := 115) (v := 4) C (dm_Mo_over 57 rfl) rfl (by decide) ?_
              refine gi_icmp_ge (q := 118) (tgt := 125) C (dm_Mo_over 58 rfl) rfl (by decide) (fun c115 => ?_) (fun c115 => ?_)
              · refine gi_aload_n (q := 126) (i := 0) C (dm_Mo_over 62 rfl) rfl rfl rfl ?_
                refine gi_get (q := 129) C (dm_Mo_over 63 rfl) rfl fl_Mo_330 Ha1 (mo_g30 Hf1) ?_
                refine gi_istore (q := 131) C (dm_Mo_over 64 rfl) rfl (Nat.le_of_ble_eq_true rfl) ?_
                refine gi_iload (q := 133) C (dm_Mo_over 65 rfl) rfl rfl ?_
                refine gi_iconst (q := 134) (v := 2) C (dm_Mo_over 66 rfl) rfl (by decide) ?_
                refine gi_irem (q := 135) C (dm_Mo_over 67 rfl) rfl (by decide) ?_
                refine gi_if_ne (q := 138) (tgt := 142) C (dm_Mo_over 68 rfl) rfl (by decide) (fun c135 => ?_) (fun c135 => ?_)
                · exact absurd (by decide) c135
                · refine gi_lload_n (q := 139) (i := 1) C (dm_Mo_over 69 rfl) rfl rfl rfl ?_
                  refine gi_goto (tgt := 143) C (dm_Mo_over 70 rfl) (by decide) ?_
                  refine gi_lstore (q := 145) C (dm_Mo_over 72 rfl) rfl (Nat.le_of_ble_eq_true rfl) ?_
                  refine gi_iload (q := 147) C (dm_Mo_over 73 rfl) rfl rfl ?_
                  refine gi_iconst (q := 148) (v := 2) C (dm_Mo_over 74 rfl) rfl (by decide) ?_
                  refine gi_icmp_ge (q := 151) (tgt := 158) C (dm_Mo_over 75 rfl) rfl (by decide) (fun c148 => ?_) (fun c148 => ?_)
                  · refine gi_iload (q := 160) C (dm_Mo_over 79 rfl) rfl rfl ?_
                    refine gi_iconst (q := 161) (v := 4) C (dm_Mo_over 80 rfl) rfl (by decide) ?_
                    refine gi_icmp_ge (q := 164) (tgt := 171) C (dm_Mo_over 81 rfl) rfl (by decide) (fun c161 => ?_) (fun c161 => ?_)
                    · refine gi_iload (q := 173) C (dm_Mo_over 85 rfl) rfl rfl ?_
                      refine gi_bipush (q := 175) (v := 6) C (dm_Mo_over 86 rfl) rfl (by decide) ?_
                      refine gi_icmp_ge (q := 178) (tgt := 185) C (dm_Mo_over 87 rfl) rfl (by decide) (fun c175 => ?_) (fun c175 => ?_)
                      · refine gi_aload_n (q := 186) (i := 0) C (dm_Mo_over 91 rfl) rfl rfl rfl ?_
                        refine gi_get (q := 189) C (dm_Mo_over 92 rfl) rfl fl_Mo_336 Ha1 (mo_g28 Hf1) ?_
                        skip
                        refine gi_lstore (q := 191) C (dm_Mo_over 93 rfl) rfl (Nat.le_of_ble_eq_true rfl) ?_
                        refine gi_iload (q := 193) C (dm_Mo_over 94 rfl) rfl rfl ?_
                        refine gi_if_eq (q := 196) (tgt := 220) C (dm_Mo_over 95 rfl) rfl (by decide) (fun c193 => ?_) (fun c193 => ?_)
                        · refine gi_iinc (q := 223) (v := 1) C (dm_Mo_over 108 rfl) rfl rfl (by decide) (Nat.le_of_ble_eq_true rfl) ?_
                          refine gi_goto (tgt := 105) C (dm_Mo_over 109 rfl) (by decide) ?_
                          refine gi_close (ih 7 _ ⟨by decide, rfl⟩ (by decide)) (List.forall_mem_cons.mpr ⟨rfl, List.forall_mem_cons.mpr ⟨rfl, List.forall_mem_cons.mpr ⟨rfl, List.forall_mem_cons.mpr ⟨rfl, List.forall_mem_cons.mpr ⟨rfl, List.forall_mem_cons.mpr ⟨rfl, fun _ h => absurd h List.not_mem_nil⟩⟩⟩⟩⟩⟩) rfl rfl rfl
                        · exact absurd t30 c193
                      · exact absurd (by decide) c175
                    · exact absurd (by decide) c161
                  · exact absurd (by decide) c148
              · exact absurd (by decide) c115
          · subst z
            have ab := ovA_b hx (N := some p) (P := none) 7
            refine gi_iload (q := 107) C (dm_Mo_over 53 rfl) rfl rfl ?_
            refine gi_bipush (q := 109) (v := 8) C (dm_Mo_over 54 rfl) rfl (by decide) ?_
            refine gi_icmp_ge (q := 112) (tgt := 226) C (dm_Mo_over 55 rfl) rfl (by decide) (fun c109 => ?_) (fun c109 => ?_)
            · exact absurd c109 (by decide)
            · refine gi_iload (q := 114) C (dm_Mo_over 56 rfl) rfl rfl ?_
              refine gi_iconst (q := 115) (v := 4) C (dm_Mo_over 57 rfl) rfl (by decide) ?_
              refine gi_icmp_ge (q := 118) (tgt := 125) C (dm_Mo_over 58 rfl) rfl (by decide) (fun c115 => ?_) (fun c115 => ?_)
              · refine gi_aload_n (q := 126) (i := 0) C (dm_Mo_over 62 rfl) rfl rfl rfl ?_
                refine gi_get (q := 129) C (dm_Mo_over 63 rfl) rfl fl_Mo_330 Ha1 (mo_g30 Hf1) ?_
                refine gi_istore (q := 131) C (dm_Mo_over 64 rfl) rfl (Nat.le_of_ble_eq_true rfl) ?_
                refine gi_iload (q := 133) C (dm_Mo_over 65 rfl) rfl rfl ?_
                refine gi_iconst (q := 134) (v := 2) C (dm_Mo_over 66 rfl) rfl (by decide) ?_
                refine gi_irem (q := 135) C (dm_Mo_over 67 rfl) rfl (by decide) ?_
                refine gi_if_ne (q := 138) (tgt := 142) C (dm_Mo_over 68 rfl) rfl (by decide) (fun c135 => ?_) (fun c135 => ?_)
                · refine gi_lload_n (q := 143) (i := 3) C (dm_Mo_over 71 rfl) rfl rfl rfl ?_
                  refine gi_lstore (q := 145) C (dm_Mo_over 72 rfl) rfl (Nat.le_of_ble_eq_true rfl) ?_
                  refine gi_iload (q := 147) C (dm_Mo_over 73 rfl) rfl rfl ?_
                  refine gi_iconst (q := 148) (v := 2) C (dm_Mo_over 74 rfl) rfl (by decide) ?_
                  refine gi_icmp_ge (q := 151) (tgt := 158) C (dm_Mo_over 75 rfl) rfl (by decide) (fun c148 => ?_) (fun c148 => ?_)
                  · refine gi_iload (q := 160) C (dm_Mo_over 79 rfl) rfl rfl ?_
                    refine gi_iconst (q := 161) (v := 4) C (dm_Mo_over 80 rfl) rfl (by decide) ?_
                    refine gi_icmp_ge (q := 164) (tgt := 171) C (dm_Mo_over 81 rfl) rfl (by decide) (fun c161 => ?_) (fun c161 => ?_)
                    · refine gi_iload (q := 173) C (dm_Mo_over 85 rfl) rfl rfl ?_
                      refine gi_bipush (q := 175) (v := 6) C (dm_Mo_over 86 rfl) rfl (by decide) ?_
                      refine gi_icmp_ge (q := 178) (tgt := 185) C (dm_Mo_over 87 rfl) rfl (by decide) (fun c175 => ?_) (fun c175 => ?_)
                      · refine gi_aload_n (q := 186) (i := 0) C (dm_Mo_over 91 rfl) rfl rfl rfl ?_
                        refine gi_get (q := 189) C (dm_Mo_over 92 rfl) rfl fl_Mo_336 Ha1 (mo_g28 Hf1) ?_
                        skip
                        refine gi_lstore (q := 191) C (dm_Mo_over 93 rfl) rfl (Nat.le_of_ble_eq_true rfl) ?_
                        refine gi_iload (q := 193) C (dm_Mo_over 94 rfl) rfl rfl ?_
                        refine gi_if_eq (q := 196) (tgt := 220) C (dm_Mo_over 95 rfl) rfl (by decide) (fun c193 => ?_) (fun c193 => ?_)
                        · refine gi_iinc (q := 223) (v := 1) C (dm_Mo_over 108 rfl) rfl rfl (by decide) (Nat.le_of_ble_eq_true rfl) ?_
                          refine gi_goto (tgt := 105) C (dm_Mo_over 109 rfl) (by decide) ?_
                          refine gi_close (ih 8 _ ⟨by decide, rfl⟩ (by decide)) (List.forall_mem_cons.mpr ⟨rfl, List.forall_mem_cons.mpr ⟨rfl, List.forall_mem_cons.mpr ⟨rfl, List.forall_mem_cons.mpr ⟨rfl, List.forall_mem_cons.mpr ⟨rfl, List.forall_mem_cons.mpr ⟨rfl, fun _ h => absurd h List.not_mem_nil⟩⟩⟩⟩⟩⟩) rfl rfl rfl
                        · exact absurd t30 c193
                      · exact absurd (by decide) c175
                    · exact absurd (by decide) c161
                  · exact absurd (by decide) c148
                · exact absurd c135 (by decide)
              · exact absurd (by decide) c115
        · have j8 : j = 8 := by omega
          subst j8
          have ab := ovA_b hx (N := some p) (P := none) 8
          refine gi_iload (q := 107) C (dm_Mo_over 53 rfl) rfl rfl ?_
          refine gi_bipush (q := 109) (v := 8) C (dm_Mo_over 54 rfl) rfl (by decide) ?_
          refine gi_icmp_ge (q := 112) (tgt := 226) C (dm_Mo_over 55 rfl) rfl (by decide) (fun c109 => ?_) (fun c109 => ?_)
          · refine gi_aload_n (q := 227) (i := 0) C (dm_Mo_over 110 rfl) rfl rfl rfl ?_
            refine gi_lload (q := 229) C (dm_Mo_over 111 rfl) rfl rfl ?_
            refine gi_lload (q := 231) C (dm_Mo_over 112 rfl) rfl rfl ?_
            refine gi_lconst (q := 232) (v := 1) C (dm_Mo_over 113 rfl) rfl (by decide) ?_
            rw [eL_1]
            refine gi_callv 3 (q := 235) C (dm_Mo_over 114 rfl) rfl my_Mo_set lk_Mo_262 im_Mo_set rfl (c_Mo_set (ovA x (some p) none 8).1 (ovA x (some p) none 8).2 1 (by omega) (by omega) (by omega) (by omega) H1) Ha1 rfl rfl ⟨(Nat.le_of_ble_eq_true rfl), (Nat.le_of_ble_eq_true rfl)⟩ (Nat.le_of_ble_eq_true rfl) ⟨(Nat.le_of_ble_eq_true rfl), (Nat.le_of_ble_eq_true rfl)⟩ (fun r232 n232 h232 e232 => ?_)
            obtain ⟨rfl, rfl, W232⟩ := e232
            refine gi_vret C hr (dm_Mo_over 115 rfl) ?_
            rw [show overS x d = mkS (ovA x (some p) none 8).1 (ovA x (some p) none 8).2 1 from by
              unfold overS
              rw [if_neg n0, if_neg n1, en, ep]
              dsimp only
              have bq := quo_b2 (p := p) hx
              rw [ovA_8z, ovA_n hx]]
            exact ⟨rfl, rfl, W232.p.tr o1 r1⟩
          · exact absurd (by decide) c109
      · rw [ep] at t30
        have t30 : S1 30 = 1 := t30
        obtain ⟨k25, k26⟩ := tn p en
        have bn := part_n hd en
        obtain ⟨k27, k28⟩ := tp q ep
        have bp := part_p hd ep
        refine gi_while (σ := Nat) (fun j => 8 - j) (fun j => [(15, .int (nI j)), (11, .long (eL (ovA x (some p) (some q) j).1)), (13, .long (eL (ovA x (some p) (some q) j).2)), (0, .ref M), (1, .long (eL x.1)), (3, .long (eL x.2.1))]) (fun _ => n89) (fun _ => 0) (fun _ => 0) (fun j y' => j ≤ 8 ∧ h89 = y') 0 ⟨Nat.zero_le _, rfl⟩ ?_ (List.forall_mem_cons.mpr ⟨rfl, List.forall_mem_cons.mpr ⟨rfl, List.forall_mem_cons.mpr ⟨rfl, List.forall_mem_cons.mpr ⟨rfl, List.forall_mem_cons.mpr ⟨rfl, List.forall_mem_cons.mpr ⟨rfl, fun _ h => absurd h List.not_mem_nil⟩⟩⟩⟩⟩⟩) rfl rfl rfl
        rintro j y' ⟨hj8, rfl⟩ ih
        try dsimp only at *
        rcases Nat.lt_or_ge j 8 with jl | jl
        · rcases (show j = 0 ∨ j = 1 ∨ j = 2 ∨ j = 3 ∨ j = 4 ∨ j = 5 ∨ j = 6 ∨ j = 7 by omega) with z | z | z | z | z | z | z | z
          · subst z
            have ab := ovA_b hx (N := some p) (P := some q) 0
            have tb := tdv_b (a := x.1) (b := p.1) (by omega) (by omega)
            refine gi_iload (q := 107) C (dm_Mo_over 53 rfl) rfl rfl ?_
            refine gi_bipush (q := 109) (v := 8) C (dm_Mo_over 54 rfl) rfl (by decide) ?_
            refine gi_icmp_ge (q := 112) (tgt := 226) C (dm_Mo_over 55 rfl) rfl (by decide) (fun c109 => ?_) (fun c109 => ?_)
            · exact absurd c109 (by decide)
            · refine gi_iload (q := 114) C (dm_Mo_over 56 rfl) rfl rfl ?_
              refine gi_iconst (q := 115) (v := 4) C (dm_Mo_over 57 rfl) rfl (by decide) ?_
              refine gi_icmp_ge (q := 118) (tgt := 125) C (dm_Mo_over 58 rfl) rfl (by decide) (fun c115 => ?_) (fun c115 => ?_)
              · exact absurd c115 (by decide)
              · refine gi_aload_n (q := 119) (i := 0) C (dm_Mo_over 59 rfl) rfl rfl rfl ?_
                refine gi_get (q := 122) C (dm_Mo_over 60 rfl) rfl fl_Mo_321 Ha1 (mo_g29 Hf1) ?_
                refine gi_goto (tgt := 129) C (dm_Mo_over 61 rfl) (by decide) ?_
                refine gi_istore (q := 131) C (dm_Mo_over 64 rfl) rfl (Nat.le_of_ble_eq_true rfl) ?_
                refine gi_iload (q := 133) C (dm_Mo_over 65 rfl) rfl rfl ?_
                refine gi_iconst (q := 134) (v := 2) C (dm_Mo_over 66 rfl) rfl (by decide) ?_
                refine gi_irem (q := 135) C (dm_Mo_over 67 rfl) rfl (by decide) ?_
                refine gi_if_ne (q := 138) (tgt := 142) C (dm_Mo_over 68 rfl) rfl (by decide) (fun c135 => ?_) (fun c135 => ?_)
                · exact absurd (by decide) c135
                · refine gi_lload_n (q := 139) (i := 1) C (dm_Mo_over 69 rfl) rfl rfl rfl ?_
                  refine gi_goto (tgt := 143) C (dm_Mo_over 70 rfl) (by decide) ?_
                  refine gi_lstore (q := 145) C (dm_Mo_over 72 rfl) rfl (Nat.le_of_ble_eq_true rfl) ?_
                  refine gi_iload (q := 147) C (dm_Mo_over 73 rfl) rfl rfl ?_
                  refine gi_iconst (q := 148) (v := 2) C (dm_Mo_over 74 rfl) rfl (by decide) ?_
                  refine gi_icmp_ge (q := 151) (tgt := 158) C (dm_Mo_over 75 rfl) rfl (by decide) (fun c148 => ?_) (fun c148 => ?_)
                  · exact absurd c148 (by decide)
                  · refine gi_aload_n (q := 152) (i := 0) C (dm_Mo_over 76 rfl) rfl rfl rfl ?_
                    refine gi_get (q := 155) C (dm_Mo_over 77 rfl) rfl fl_Mo_324 Ha1 (mo_g25 Hf1) ?_
                    refine gi_goto (tgt := 189) C (dm_Mo_over 78 rfl) (by decide) ?_
                    rw [k25]
                    refine gi_lstore (q := 191) C (dm_Mo_over 93 rfl) rfl (Nat.le_of_ble_eq_true rfl) ?_
                    refine gi_iload (q := 193) C (dm_Mo_over 94 rfl) rfl rfl ?_
                    refine gi_if_eq (q := 196) (tgt := 220) C (dm_Mo_over 95 rfl) rfl (by decide) (fun c193 => ?_) (fun c193 => ?_)
                    · exact absurd c193 (by rw [t29]; decide)
                    · refine gi_lload (q := 198) C (dm_Mo_over 96 rfl) rfl rfl ?_
                      refine gi_lload (q := 200) C (dm_Mo_over 97 rfl) rfl rfl ?_
                      refine gi_lload (q := 202) C (dm_Mo_over 98 rfl) rfl rfl ?_
                      refine gi_ldiv (q := 203) C (dm_Mo_over 99 rfl) rfl (fun z => by rw [eL_0, eL_eq (by omega) (by omega) (by omega) (by omega)] at z; omega) ?_
                      rw [eL_div (by omega) (by omega) (by omega) (by omega)]
                      refine gi_calls 2 (q := 206) C (dm_Mo_over 100 rfl) rfl my_Mo_min lk_Mo_252 sm_Mo_min (c_Mo_min (ovA x (some p) (some q) 0).1 (x.1.tdiv p.1) (by omega) (by omega) (by omega) (by omega)) rfl rfl ⟨(Nat.le_of_ble_eq_true rfl), (Nat.le_of_ble_eq_true rfl)⟩ (Nat.le_of_ble_eq_true rfl) ⟨(Nat.le_of_ble_eq_true rfl), (Nat.le_of_ble_eq_true rfl)⟩ (fun r203 n203 h203 e203 => ?_)
                      obtain ⟨rfl, q203, u203⟩ := e203
                      rw [q203, u203]
                      refine gi_lstore (q := 208) C (dm_Mo_over 101 rfl) rfl (Nat.le_of_ble_eq_true rfl) ?_
                      refine gi_lload (q := 210) C (dm_Mo_over 102 rfl) rfl rfl ?_
                      refine gi_lload (q := 212) C (dm_Mo_over 103 rfl) rfl rfl ?_
                      refine gi_lload (q := 214) C (dm_Mo_over 104 rfl) rfl rfl ?_
                      refine gi_ldiv (q := 215) C (dm_Mo_over 105 rfl) rfl (fun z => by rw [eL_0, eL_eq (by omega) (by omega) (by omega) (by omega)] at z; omega) ?_
                      rw [eL_div (by omega) (by omega) (by omega) (by omega)]
                      refine gi_calls 2 (q := 218) C (dm_Mo_over 106 rfl) rfl my_Mo_max lk_Mo_256 sm_Mo_max (c_Mo_max (ovA x (some p) (some q) 0).2 (x.1.tdiv p.1) (by omega) (by omega) (by omega) (by omega)) rfl rfl ⟨(Nat.le_of_ble_eq_true rfl), (Nat.le_of_ble_eq_true rfl)⟩ (Nat.le_of_ble_eq_true rfl) ⟨(Nat.le_of_ble_eq_true rfl), (Nat.le_of_ble_eq_true rfl)⟩ (fun r215 n215 h215 e215 => ?_)
                      obtain ⟨rfl, q215, u215⟩ := e215
                      rw [q215, u215]
                      refine gi_lstore (q := 220) C (dm_Mo_over 107 rfl) rfl (Nat.le_of_ble_eq_true rfl) ?_
                      refine gi_iinc (q := 223) (v := 1) C (dm_Mo_over 108 rfl) rfl rfl (by decide) (Nat.le_of_ble_eq_true rfl) ?_
                      refine gi_goto (tgt := 105) C (dm_Mo_over 109 rfl) (by decide) ?_
                      refine gi_close (ih 1 _ ⟨by decide, rfl⟩ (by decide)) (List.forall_mem_cons.mpr ⟨rfl, List.forall_mem_cons.mpr ⟨rfl, List.forall_mem_cons.mpr ⟨rfl, List.forall_mem_cons.mpr ⟨rfl, List.forall_mem_cons.mpr ⟨rfl, List.forall_mem_cons.mpr ⟨rfl, fun _ h => absurd h List.not_mem_nil⟩⟩⟩⟩⟩⟩) rfl rfl rfl
          · subst z
            have ab := ovA_b hx (N := some p) (P := some q) 1
            have tb := tdv_b (a := x.2.1) (b := p.1) (by omega) (by omega)
            refine gi_iload (q := 107) C (dm_Mo_over 53 rfl) rfl rfl ?_
            refine gi_bipush (q := 109) (v := 8) C (dm_Mo_over 54 rfl) rfl (by decide) ?_
            refine gi_icmp_ge (q := 112) (tgt := 226) C (dm_Mo_over 55 rfl) rfl (by decide) (fun c109 => ?_) (fun c109 => ?_)
            · exact absurd c109 (by decide)
            · refine gi_iload (q := 114) C (dm_Mo_over 56 rfl) rfl rfl ?_
              refine gi_iconst (q := 115) (v := 4) C (dm_Mo_over 57 rfl) rfl (by decide) ?_
              refine gi_icmp_ge (q := 118) (tgt := 125) C (dm_Mo_over 58 rfl) rfl (by decide) (fun c115 => ?_) (fun c115 => ?_)
              · exact absurd c115 (by decide)
              · refine gi_aload_n (q := 119) (i := 0) C (dm_Mo_over 59 rfl) rfl rfl rfl ?_
                refine gi_get (q := 122) C (dm_Mo_over 60 rfl) rfl fl_Mo_321 Ha1 (mo_g29 Hf1) ?_
                refine gi_goto (tgt := 129) C (dm_Mo_over 61 rfl) (by decide) ?_
                refine gi_istore (q := 131) C (dm_Mo_over 64 rfl) rfl (Nat.le_of_ble_eq_true rfl) ?_
                refine gi_iload (q := 133) C (dm_Mo_over 65 rfl) rfl rfl ?_
                refine gi_iconst (q := 134) (v := 2) C (dm_Mo_over 66 rfl) rfl (by decide) ?_
                refine gi_irem (q := 135) C (dm_Mo_over 67 rfl) rfl (by decide) ?_
                refine gi_if_ne (q := 138) (tgt := 142) C (dm_Mo_over 68 rfl) rfl (by decide) (fun c135 => ?_) (fun c135 => ?_)
                · refine gi_lload_n (q := 143) (i := 3) C (dm_Mo_over 71 rfl) rfl rfl rfl ?_
                  refine gi_lstore (q := 145) C (dm_Mo_over 72 rfl) rfl (Nat.le_of_ble_eq_true rfl) ?_
                  refine gi_iload (q := 147) C (dm_Mo_over 73 rfl) rfl rfl ?_
                  refine gi_iconst (q := 148) (v := 2) C (dm_Mo_over 74 rfl) rfl (by decide) ?_
                  refine gi_icmp_ge (q := 151) (tgt := 158) C (dm_Mo_over 75 rfl) rfl (by decide) (fun c148 => ?_) (fun c148 => ?_)
                  · exact absurd c148 (by decide)
                  · refine gi_aload_n (q := 152) (i := 0) C (dm_Mo_over 76 rfl) rfl rfl rfl ?_
                    refine gi_get (q := 155) C (dm_Mo_over 77 rfl) rfl fl_Mo_324 Ha1 (mo_g25 Hf1) ?_
                    refine gi_goto (tgt := 189) C (dm_Mo_over 78 rfl) (by decide) ?_
                    rw [k25]
                    refine gi_lstore (q := 191) C (dm_Mo_over 93 rfl) rfl (Nat.le_of_ble_eq_true rfl) ?_
                    refine gi_iload (q := 193) C (dm_Mo_over 94 rfl) rfl rfl ?_
                    refine gi_if_eq (q := 196) (tgt := 220) C (dm_Mo_over 95 rfl) rfl (by decide) (fun c193 => ?_) (fun c193 => ?_)
                    · exact absurd c193 (by rw [t29]; decide)
                    · refine gi_lload (q := 198) C (dm_Mo_over 96 rfl) rfl rfl ?_
                      refine gi_lload (q := 200) C (dm_Mo_over 97 rfl) rfl rfl ?_
                      refine gi_lload (q := 202) C (dm_Mo_over 98 rfl) rfl rfl ?_
                      refine gi_ldiv (q := 203) C (dm_Mo_over 99 rfl) rfl (fun z => by rw [eL_0, eL_eq (by omega) (by omega) (by omega) (by omega)] at z; omega) ?_
                      rw [eL_div (by omega) (by omega) (by omega) (by omega)]
                      refine gi_calls 2 (q := 206) C (dm_Mo_over 100 rfl) rfl my_Mo_min lk_Mo_252 sm_Mo_min (c_Mo_min (ovA x (some p) (some q) 1).1 (x.2.1.tdiv p.1) (by omega) (by omega) (by omega) (by omega)) rfl rfl ⟨(Nat.le_of_ble_eq_true rfl), (Nat.le_of_ble_eq_true rfl)⟩ (Nat.le_of_ble_eq_true rfl) ⟨(Nat.le_of_ble_eq_true rfl), (Nat.le_of_ble_eq_true rfl)⟩ (fun r203 n203 h203 e203 => ?_)
                      obtain ⟨rfl, q203, u203⟩ := e203
                      rw [q203, u203]
                      refine gi_lstore (q := 208) C (dm_Mo_over 101 rfl) rfl (Nat.le_of_ble_eq_true rfl) ?_
                      refine gi_lload (q := 210) C (dm_Mo_over 102 rfl) rfl rfl ?_
                      refine gi_lload (q := 212) C (dm_Mo_over 103 rfl) rfl rfl ?_
                      refine gi_lload (q := 214) C (dm_Mo_over 104 rfl) rfl rfl ?_
                      refine gi_ldiv (q := 215) C (dm_Mo_over 105 rfl) rfl (fun z => by rw [eL_0, eL_eq (by omega) (by omega) (by omega) (by omega)] at z; omega) ?_
                      rw [eL_div (by omega) (by omega) (by omega) (by omega)]
                      refine gi_calls 2 (q := 218) C (dm_Mo_over 106 rfl) rfl my_Mo_max lk_Mo_256 sm_Mo_max (c_Mo_max (ovA x (some p) (some q) 1).2 (x.2.1.tdiv p.1) (by omega) (by omega) (by omega) (by omega)) rfl rfl ⟨(Nat.le_of_ble_eq_true rfl), (Nat.le_of_ble_eq_true rfl)⟩ (Nat.le_of_ble_eq_true rfl) ⟨(Nat.le_of_ble_eq_true rfl), (Nat.le_of_ble_eq_true rfl)⟩ (fun r215 n215 h215 e215 => ?_)
                      obtain ⟨rfl, q215, u215⟩ := e215
                      rw [q215, u215]
                      refine gi_lstore (q := 220) C (dm_Mo_over 107 rfl) rfl (Nat.le_of_ble_eq_true rfl) ?_
                      refine gi_iinc (q := 223) (v := 1) C (dm_Mo_over 108 rfl) rfl rfl (by decide) (Nat.le_of_ble_eq_true rfl) ?_
                      refine gi_goto (tgt := 105) C (dm_Mo_over 109 rfl) (by decide) ?_
                      refine gi_close (ih 2 _ ⟨by decide, rfl⟩ (by decide)) (List.forall_mem_cons.mpr ⟨rfl, List.forall_mem_cons.mpr ⟨rfl, List.forall_mem_cons.mpr ⟨rfl, List.forall_mem_cons.mpr ⟨rfl, List.forall_mem_cons.mpr ⟨rfl, List.forall_mem_cons.mpr ⟨rfl, fun _ h => absurd h List.not_mem_nil⟩⟩⟩⟩⟩⟩) rfl rfl rfl
                · exact absurd c135 (by decide)
          · subst z
            have ab := ovA_b hx (N := some p) (P := some q) 2
            have tb := tdv_b (a := x.1) (b := p.2.1) (by omega) (by omega)
            refine gi_iload (q := 107) C (dm_Mo_over 53 rfl) rfl rfl ?_
            refine gi_bipush (q := 109) (v := 8) C (dm_Mo_over 54 rfl) rfl (by decide) ?_
            refine gi_icmp_ge (q := 112) (tgt := 226) C (dm_Mo_over 55 rfl) rfl (by decide) (fun c109 => ?_) (fun c109 => ?_)
            · exact absurd c109 (by decide)
            · refine gi_iload (q := 114) C (dm_Mo_over 56 rfl) rfl rfl ?_
              refine gi_iconst (q := 115) (v := 4) C (dm_Mo_over 57 rfl) rfl (by decide) ?_
              refine gi_icmp_ge (q := 118) (tgt := 125) C (dm_Mo_over 58 rfl) rfl (by decide) (fun c115 => ?_) (fun c115 => ?_)
              · exact absurd c115 (by decide)
              · refine gi_aload_n (q := 119) (i := 0) C (dm_Mo_over 59 rfl) rfl rfl rfl ?_
                refine gi_get (q := 122) C (dm_Mo_over 60 rfl) rfl fl_Mo_321 Ha1 (mo_g29 Hf1) ?_
                refine gi_goto (tgt := 129) C (dm_Mo_over 61 rfl) (by decide) ?_
                refine gi_istore (q := 131) C (dm_Mo_over 64 rfl) rfl (Nat.le_of_ble_eq_true rfl) ?_
                refine gi_iload (q := 133) C (dm_Mo_over 65 rfl) rfl rfl ?_
                refine gi_iconst (q := 134) (v := 2) C (dm_Mo_over 66 rfl) rfl (by decide) ?_
                refine gi_irem (q := 135) C (dm_Mo_over 67 rfl) rfl (by decide) ?_
                refine gi_if_ne (q := 138) (tgt := 142) C (dm_Mo_over 68 rfl) rfl (by decide) (fun c135 => ?_) (fun c135 => ?_)
                · exact absurd (by decide) c135
                · refine gi_lload_n (q := 139) (i := 1) C (dm_Mo_over 69 rfl) rfl rfl rfl ?_
                  refine gi_goto (tgt := 143) C (dm_Mo_over 70 rfl) (by decide) ?_
                  refine gi_lstore (q := 145) C (dm_Mo_over 72 rfl) rfl (Nat.le_of_ble_eq_true rfl) ?_
                  refine gi_iload (q := 147) C (dm_Mo_over 73 rfl) rfl rfl ?_
                  refine gi_iconst (q := 148) (v := 2) C (dm_Mo_over 74 rfl) rfl (by decide) ?_
                  refine gi_icmp_ge (q := 151) (tgt := 158) C (dm_Mo_over 75 rfl) rfl (by decide) (fun c148 => ?_) (fun c148 => ?_)
                  · refine gi_iload (q := 160) C (dm_Mo_over 79 rfl) rfl rfl ?_
                    refine gi_iconst (q := 161) (v := 4) C (dm_Mo_over 80 rfl) rfl (by decide) ?_
                    refine gi_icmp_ge (q := 164) (tgt := 171) C (dm_Mo_over 81 rfl) rfl (by decide) (fun c161 => ?_) (fun c161 => ?_)
                    · exact absurd c161 (by decide)
                    · refine gi_aload_n (q := 165) (i := 0) C (dm_Mo_over 82 rfl) rfl rfl rfl ?_
                      refine gi_get (q := 168) C (dm_Mo_over 83 rfl) rfl fl_Mo_327 Ha1 (mo_g26 Hf1) ?_
                      refine gi_goto (tgt := 189) C (dm_Mo_over 84 rfl) (by decide) ?_
                      rw [k26]
                      refine gi_lstore (q := 191) C (dm_Mo_over 93 rfl) rfl (Nat.le_of_ble_eq_true rfl) ?_
                      refine gi_iload (q := 193) C (dm_Mo_over 94 rfl) rfl rfl ?_
                      refine gi_if_eq (q := 196) (tgt := 220) C (dm_Mo_over 95 rfl) rfl (by decide) (fun c193 => ?_) (fun c193 => ?_)
                      · exact absurd c193 (by rw [t29]; decide)
                      · refine gi_lload (q := 198) C (dm_Mo_over 96 rfl) rfl rfl ?_
                        refine gi_lload (q := 200) C (dm_Mo_over 97 rfl) rfl rfl ?_
                        refine gi_lload (q := 202) C (dm_Mo_over 98 rfl) rfl rfl ?_
                        refine gi_ldiv (q := 203) C (dm_Mo_over 99 rfl) rfl (fun z => by rw [eL_0, eL_eq (by omega) (by omega) (by omega) (by omega)] at z; omega) ?_
                        rw [eL_div (by omega) (by omega) (by omega) (by omega)]
                        refine gi_calls 2 (q := 206) C (dm_Mo_over 100 rfl) rfl my_Mo_min lk_Mo_252 sm_Mo_min (c_Mo_min (ovA x (some p) (some q) 2).1 (x.1.tdiv p.2.1) (by omega) (by omega) (by omega) (by omega)) rfl rfl ⟨(Nat.le_of_ble_eq_true rfl), (Nat.le_of_ble_eq_true rfl)⟩ (Nat.le_of_ble_eq_true rfl) ⟨(Nat.le_of_ble_eq_true rfl), (Nat.le_of_ble_eq_true rfl)⟩ (fun r203 n203 h203 e203 => ?_)
                        obtain ⟨rfl, q203, u203⟩ := e203
                        rw [q203, u203]
                        refine gi_lstore (q := 208) C (dm_Mo_over 101 rfl) rfl (Nat.le_of_ble_eq_true rfl) ?_
                        refine gi_lload (q := 210) C (dm_Mo_over 102 rfl) rfl rfl ?_
                        refine gi_lload (q := 212) C (dm_Mo_over 103 rfl) rfl rfl ?_
                        refine gi_lload (q := 214) C (dm_Mo_over 104 rfl) rfl rfl ?_
                        refine gi_ldiv (q := 215) C (dm_Mo_over 105 rfl) rfl (fun z => by rw [eL_0, eL_eq (by omega) (by omega) (by omega) (by omega)] at z; omega) ?_
                        rw [eL_div (by omega) (by omega) (by omega) (by omega)]
                        refine gi_calls 2 (q := 218) C (dm_Mo_over 106 rfl) rfl my_Mo_max lk_Mo_256 sm_Mo_max (c_Mo_max (ovA x (some p) (some q) 2).2 (x.1.tdiv p.2.1) (by omega) (by omega) (by omega) (by omega)) rfl rfl ⟨(Nat.le_of_ble_eq_true rfl), (Nat.le_of_ble_eq_true rfl)⟩ (Nat.le_of_ble_eq_true rfl) ⟨(Nat.le_of_ble_eq_true rfl), (Nat.le_of_ble_eq_true rfl)⟩ (fun r215 n215 h215 e215 => ?_)
                        obtain ⟨rfl, q215, u215⟩ := e215
                        rw [q215, u215]
                        refine gi_lstore (q := 220) C (dm_Mo_over 107 rfl) rfl (Nat.le_of_ble_eq_true rfl) ?_
                        refine gi_iinc (q := 223) (v := 1) C (dm_Mo_over 108 rfl) rfl rfl (by decide) (Nat.le_of_ble_eq_true rfl) ?_
                        refine gi_goto (tgt := 105) C (dm_Mo_over 109 rfl) (by decide) ?_
                        refine gi_close (ih 3 _ ⟨by decide, rfl⟩ (by decide)) (List.forall_mem_cons.mpr ⟨rfl, List.forall_mem_cons.mpr ⟨rfl, List.forall_mem_cons.mpr ⟨rfl, List.forall_mem_cons.mpr ⟨rfl, List.forall_mem_cons.mpr ⟨rfl, List.forall_mem_cons.mpr ⟨rfl, fun _ h => absurd h List.not_mem_nil⟩⟩⟩⟩⟩⟩) rfl rfl rfl
                  · exact absurd (by decide) c148
          · subst z
            have ab := ovA_b hx (N := some p) (P := some q) 3
            have tb := tdv_b (a := x.2.1) (b := p.2.1) (by omega) (by omega)
            refine gi_iload (q := 107) C (dm_Mo_over 53 rfl) rfl rfl ?_
            refine gi_bipush (q := 109) (v := 8) C (dm_Mo_over 54 rfl) rfl (by decide) ?_
            refine gi_icmp_ge (q := 112) (tgt := 226) C (dm_Mo_over 55 rfl) rfl (by decide) (fun c109 => ?_) (fun c109 => ?_)
            · exact absurd c109 (by decide)
            · refine gi_iload (q := 114) C (dm_Mo_over 56 rfl) rfl rfl ?_
              refine gi_iconst (q := 115) (v := 4) C (dm_Mo_over 57 rfl) rfl (by decide) ?_
              refine gi_icmp_ge (q := 118) (tgt := 125) C (dm_Mo_over 58 rfl) rfl (by decide) (fun c115 => ?_) (fun c115 => ?_)
              · exact absurd c115 (by decide)
              · refine gi_aload_n (q := 119) (i := 0) C (dm_Mo_over 59 rfl) rfl rfl rfl ?_
                refine gi_get (q := 122) C (dm_Mo_over 60 rfl) rfl fl_Mo_321 Ha1 (mo_g29 Hf1) ?_
                refine gi_goto (tgt := 129) C (dm_Mo_over 61 rfl) (by decide) ?_
                refine gi_istore (q := 131) C (dm_Mo_over 64 rfl) rfl (Nat.le_of_ble_eq_true rfl) ?_
                refine gi_iload (q := 133) C (dm_Mo_over 65 rfl) rfl rfl ?_
                refine gi_iconst (q := 134) (v := 2) C (dm_Mo_over 66 rfl) rfl (by decide) ?_
                refine gi_irem (q := 135) C (dm_Mo_over 67 rfl) rfl (by decide) ?_
                refine gi_if_ne (q := 138) (tgt := 142) C (dm_Mo_over 68 rfl) rfl (by decide) (fun c135 => ?_) (fun c135 => ?_)
                · refine gi_lload_n (q := 143) (i := 3) C (dm_Mo_over 71 rfl) rfl rfl rfl ?_
                  refine gi_lstore (q := 145) C (dm_Mo_over 72 rfl) rfl (Nat.le_of_ble_eq_true rfl) ?_
                  refine gi_iload (q := 147) C (dm_Mo_over 73 rfl) rfl rfl ?_
                  refine gi_iconst (q := 148) (v := 2) C (dm_Mo_over 74 rfl) rfl (by decide) ?_
                  refine gi_icmp_ge (q := 151) (tgt := 158) C (dm_Mo_over 75 rfl) rfl (by decide) (fun c148 => ?_) (fun c148 => ?_)
                  · refine gi_iload (q := 160) C (dm_Mo_over 79 rfl) rfl rfl ?_
                    refine gi_iconst (q := 161) (v := 4) C (dm_Mo_over 80 rfl) rfl (by decide) ?_
                    refine gi_icmp_ge (q := 164) (tgt := 171) C (dm_Mo_over 81 rfl) rfl (by decide) (fun c161 => ?_) (fun c161 => ?_)
                    · exact absurd c161 (by decide)
                    · refine gi_aload_n (q := 165) (i := 0) C (dm_Mo_over 82 rfl) rfl rfl rfl ?_
                      refine gi_get (q := 168) C (dm_Mo_over 83 rfl) rfl fl_Mo_327 Ha1 (mo_g26 Hf1) ?_
                      refine gi_goto (tgt := 189) C (dm_Mo_over 84 rfl) (by decide) ?_
                      rw [k26]
                      refine gi_lstore (q := 191) C (dm_Mo_over 93 rfl) rfl (Nat.le_of_ble_eq_true rfl) ?_
                      refine gi_iload (q := 193) C (dm_Mo_over 94 rfl) rfl rfl ?_
                      refine gi_if_eq (q := 196) (tgt := 220) C (dm_Mo_over 95 rfl) rfl (by decide) (fun c193 => ?_) (fun c193 => ?_)
                      · exact absurd c193 (by rw [t29]; decide)
                      · refine gi_lload (q := 198) C (dm_Mo_over 96 rfl) rfl rfl ?_
                        refine gi_lload (q := 200) C (dm_Mo_over 97 rfl) rfl rfl ?_
                        refine gi_lload (q := 202) C (dm_Mo_over 98 rfl) rfl rfl ?_
                        refine gi_ldiv (q := 203) C (dm_Mo_over 99 rfl) rfl (fun z => by rw [eL_0, eL_eq (by omega) (by omega) (by omega) (by omega)] at z; omega) ?_
                        rw [eL_div (by omega) (by omega) (by omega) (by omega)]
                        refine gi_calls 2 (q := 206) C (dm_Mo_over 100 rfl) rfl my_Mo_min lk_Mo_252 sm_Mo_min (c_Mo_min (ovA x (some p) (some q) 3).1 (x.2.1.tdiv p.2.1) (by omega) (by omega) (by omega) (by omega)) rfl rfl ⟨(Nat.le_of_ble_eq_true rfl), (Nat.le_of_ble_eq_true rfl)⟩ (Nat.le_of_ble_eq_true rfl) ⟨(Nat.le_of_ble_eq_true rfl), (Nat.le_of_ble_eq_true rfl)⟩ (fun r203 n203 h203 e203 => ?_)
                        obtain ⟨rfl, q203, u203⟩ := e203
                        rw [q203, u203]
                        refine gi_lstore (q := 208) C (dm_Mo_over 101 rfl) rfl (Nat.le_of_ble_eq_true rfl) ?_
                        refine gi_lload (q := 210) C (dm_Mo_over 102 rfl) rfl rfl ?_
                        refine gi_lload (q := 212) C (dm_Mo_over 103 rfl) rfl rfl ?_
                        refine gi_lload (q := 214) C (dm_Mo_over 104 rfl) rfl rfl ?_
                        refine gi_ldiv (q := 215) C (dm_Mo_over 105 rfl) rfl (fun z => by rw [eL_0, eL_eq (by omega) (by omega) (by omega) (by omega)] at z; omega) ?_
                        rw [eL_div (by omega) (by omega) (by omega) (by omega)]
                        refine gi_calls 2 (q := 218) C (dm_Mo_over 106 rfl) rfl my_Mo_max lk_Mo_256 sm_Mo_max (c_Mo_max (ovA x (some p) (some q) 3).2 (x.2.1.tdiv p.2.1) (by omega) (by omega) (by omega) (by omega)) rfl rfl ⟨(Nat.le_of_ble_eq_true rfl), (Nat.le_of_ble_eq_true rfl)⟩ (Nat.le_of_ble_eq_true rfl) ⟨(Nat.le_of_ble_eq_true rfl), (Nat.le_of_ble_eq_true rfl)⟩ (fun r215 n215 h215 e215 => ?_)
                        obtain ⟨rfl, q215, u215⟩ := e215
                        rw [q215, u215]
                        refine gi_lstore (q := 220) C (dm_Mo_over 107 rfl) rfl (Nat.le_of_ble_eq_true rfl) ?_
                        refine gi_iinc (q := 223) (v := 1) C (dm_Mo_over 108 rfl) rfl rfl (by decide) (Nat.le_of_ble_eq_true rfl) ?_
                        refine gi_goto (tgt := 105) C (dm_Mo_over 109 rfl) (by decide) ?_
                        refine gi_close (ih 4 _ ⟨by decide, rfl⟩ (by decide)) (List.forall_mem_cons.mpr ⟨rfl, List.forall_mem_cons.mpr ⟨rfl, List.forall_mem_cons.mpr ⟨rfl, List.forall_mem_cons.mpr ⟨rfl, List.forall_mem_cons.mpr ⟨rfl, List.forall_mem_cons.mpr ⟨rfl, fun _ h => absurd h List.not_mem_nil⟩⟩⟩⟩⟩⟩) rfl rfl rfl
                  · exact absurd (by decide) c148
                · exact absurd c135 (by decide)
          · subst z
            have ab := ovA_b hx (N := some p) (P := some q) 4
            have tb := tdv_b (a := x.1) (b := q.1) (by omega) (by omega)
            refine gi_iload (q := 107) C (dm_Mo_over 53 rfl) rfl rfl ?_
            refine gi_bipush (q := 109) (v := 8) C (dm_Mo_over 54 rfl) rfl (by decide) ?_
            refine gi_icmp_ge (q := 112) (tgt := 226) C (dm_Mo_over 55 rfl) rfl (by decide) (fun c109 => ?_) (fun c109 => ?_)
            · exact absurd c109 (by decide)
            · refine gi_iload (q := 114) C (dm_Mo_over 56 rfl) rfl rfl ?_
              refine gi_iconst (q := 115) (v := 4) C (dm_Mo_over 57 rfl) rfl (by decide) ?_
              refine gi_icmp_ge (q := 118) (tgt := 125) C (dm_Mo_over 58 rfl) rfl (by decide) (fun c115 => ?_) (fun c115 => ?_)
              · refine gi_aload_n (q := 126) (i := 0) C (dm_Mo_over 62 rfl) rfl rfl rfl ?_
                refine gi_get (q := 129) C (dm_Mo_over 63 rfl) rfl fl_Mo_330 Ha1 (mo_g30 Hf1) ?_
                refine gi_istore (q := 131) C (dm_Mo_over 64 rfl) rfl (Nat.le_of_ble_eq_true rfl) ?_
                refine gi_iload (q := 133) C (dm_Mo_over 65 rfl) rfl rfl ?_
                refine gi_iconst (q := 134) (v := 2) C (dm_Mo_over 66 rfl) rfl (by decide) ?_
                refine gi_irem (q := 135) C (dm_Mo_over 67 rfl) rfl (by decide) ?_
                refine gi_if_ne (q := 138) (tgt := 142) C (dm_Mo_over 68 rfl) rfl (by decide) (fun c135 => ?_) (fun c135 => ?_)
                · exact absurd (by decide) c135
                · refine gi_lload_n (q := 139) (i := 1) C (dm_Mo_over 69 rfl) rfl rfl rfl ?_
                  refine gi_goto (tgt := 143) C (dm_Mo_over 70 rfl) (by decide) ?_
                  refine gi_lstore (q := 145) C (dm_Mo_over 72 rfl) rfl (Nat.le_of_ble_eq_true rfl) ?_
                  refine gi_iload (q := 147) C (dm_Mo_over 73 rfl) rfl rfl ?_
                  refine gi_iconst (q := 148) (v := 2) C (dm_Mo_over 74 rfl) rfl (by decide) ?_
                  refine gi_icmp_ge (q := 151) (tgt := 158) C (dm_Mo_over 75 rfl) rfl (by decide) (fun c148 => ?_) (fun c148 => ?_)
                  · refine gi_iload (q := 160) C (dm_Mo_over 79 rfl) rfl rfl ?_
                    refine gi_iconst (q := 161) (v := 4) C (dm_Mo_over 80 rfl) rfl (by decide) ?_
                    refine gi_icmp_ge (q := 164) (tgt := 171) C (dm_Mo_over 81 rfl) rfl (by decide) (fun c161 => ?_) (fun c161 => ?_)
                    · refine gi_iload (q := 173) C (dm_Mo_over 85 rfl) rfl rfl ?_
                      refine gi_bipush (q := 175) (v := 6) C (dm_Mo_over 86 rfl) rfl (by decide) ?_
                      refine gi_icmp_ge (q := 178) (tgt := 185) C (dm_Mo_over 87 rfl) rfl (by decide) (fun c175 => ?_) (fun c175 => ?_)
                      · exact absurd c175 (by decide)
                      · refine gi_aload_n (q := 179) (i := 0) C (dm_Mo_over 88 rfl) rfl rfl rfl ?_
                        refine gi_get (q := 182) C (dm_Mo_over 89 rfl) rfl fl_Mo_333 Ha1 (mo_g27 Hf1) ?_
                        refine gi_goto (tgt := 189) C (dm_Mo_over 90 rfl) (by decide) ?_
                        rw [k27]
                        refine gi_lstore (q := 191) C (dm_Mo_over 93 rfl) rfl (Nat.le_of_ble_eq_true rfl) ?_
                        refine gi_iload (q := 193) C (dm_Mo_over 94 rfl) rfl rfl ?_
                        refine gi_if_eq (q := 196) (tgt := 220) C (dm_Mo_over 95 rfl) rfl (by decide) (fun c193 => ?_) (fun c193 => ?_)
                        · exact absurd c193 (by rw [t30]; decide)
                        · refine gi_lload (q := 198) C (dm_Mo_over 96 rfl) rfl rfl ?_
                          refine gi_lload (q := 200) C (dm_Mo_over 97 rfl) rfl rfl ?_
                          refine gi_lload (q := 202) C (dm_Mo_over 98 rfl) rfl rfl ?_
                          refine gi_ldiv (q := 203) C (dm_Mo_over 99 rfl) rfl (fun z => by rw [eL_0, eL_eq (by omega) (by omega) (by omega) (by omega)] at z; omega) ?_
                          rw [eL_div (by omega) (by omega) (by omega) (by omega)]
                          refine gi_calls 2 (q := 206) C (dm_Mo_over 100 rfl) rfl my_Mo_min lk_Mo_252 sm_Mo_min (c_Mo_min (ovA x (some p) (some q) 4).1 (x.1.tdiv q.1) (by omega) (by omega) (by omega) (by omega)) rfl rfl ⟨(Nat.le_of_ble_eq_true rfl), (Nat.le_of_ble_eq_true rfl)⟩ (Nat.le_of_ble_eq_true rfl) ⟨(Nat.le_of_ble_eq_true rfl), (Nat.le_of_ble_eq_true rfl)⟩ (fun r203 n203 h203 e203 => ?_)
                          obtain ⟨rfl, q203, u203⟩ := e203
                          rw [q203, u203]
                          refine gi_lstore (q := 208) C (dm_Mo_over 101 rfl) rfl (Nat.le_of_ble_eq_true rfl) ?_
                          refine gi_lload (q := 210) C (dm_Mo_over 102 rfl) rfl rfl ?_
                          refine gi_lload (q := 212) C (dm_Mo_over 103 rfl) rfl rfl ?_
                          refine gi_lload (q := 214) C (dm_Mo_over 104 rfl) rfl rfl ?_
                          refine gi_ldiv (q := 215) C (dm_Mo_over 105 rfl) rfl (fun z => by rw [eL_0, eL_eq (by omega) (by omega) (by omega) (by omega)] at z; omega) ?_
                          rw [eL_div (by omega) (by omega) (by omega) (by omega)]
                          refine gi_calls 2 (q := 218) C (dm_Mo_over 106 rfl) rfl my_Mo_max lk_Mo_256 sm_Mo_max (c_Mo_max (ovA x (some p) (some q) 4).2 (x.1.tdiv q.1) (by omega) (by omega) (by omega) (by omega)) rfl rfl ⟨(Nat.le_of_ble_eq_true rfl), (Nat.le_of_ble_eq_true rfl)⟩ (Nat.le_of_ble_eq_true rfl) ⟨(Nat.le_of_ble_eq_true rfl), (Nat.le_of_ble_eq_true rfl)⟩ (fun r215 n215 h215 e215 => ?_)
                          obtain ⟨rfl, q215, u215⟩ := e215
                          rw [q215, u215]
                          refine gi_lstore (q := 220) C (dm_Mo_over 107 rfl) rfl (Nat.le_of_ble_eq_true rfl) ?_
                          refine gi_iinc (q := 223) (v := 1) C (dm_Mo_over 108 rfl) rfl rfl (by decide) (Nat.le_of_ble_eq_true rfl) ?_
                          refine gi_goto (tgt := 105) C (dm_Mo_over 109 rfl) (by decide) ?_
                          refine gi_close (ih 5 _ ⟨by decide, rfl⟩ (by decide)) (List.forall_mem_cons.mpr ⟨rfl, List.forall_mem_cons.mpr ⟨rfl, List.forall_mem_cons.mpr ⟨rfl, List.forall_mem_cons.mpr ⟨rfl, List.forall_mem_cons.mpr ⟨rfl, List.forall_mem_cons.mpr ⟨rfl, fun _ h => absurd h List.not_mem_nil⟩⟩⟩⟩⟩⟩) rfl rfl rfl
                    · exact absurd (by decide) c161
                  · exact absurd (by decide) c148
              · exact absurd (by decide) c115
          · subst z
            have ab := ovA_b hx (N := some p) (P := some q) 5
            have tb := tdv_b (a := x.2.1) (b := q.1) (by omega) (by omega)
            refine gi_iload (q := 107) C (dm_Mo_over 53 rfl) rfl rfl ?_
            refine gi_bipush (q := 109) (v := 8) C (dm_Mo_over 54 rfl) rfl (by decide) ?_
            refine gi_icmp_ge (q := 112) (tgt := 226) C (dm_Mo_over 55 rfl) rfl (by decide) (fun c109 => ?_) (fun c109 => ?_)
            · exact absurd c109 (by decide)
            · refine gi_iload (q := 114) C (dm_Mo_over 56 rfl) rfl rfl ?_
              refine gi_iconst (q := 115) (v := 4) C (dm_Mo_over 57 rfl) rfl (by decide) ?_
              refine gi_icmp_ge (q := 118) (tgt := 125) C (dm_Mo_over 58 rfl) rfl (by decide) (fun c115 => ?_) (fun c115 => ?_)
              · refine gi_aload_n (q := 126) (i := 0) C (dm_Mo_over 62 rfl) rfl rfl rfl ?_
                refine gi_get (q := 129) C (dm_Mo_over 63 rfl) rfl fl_Mo_330 Ha1 (mo_g30 Hf1) ?_
                refine gi_istore (q := 131) C (dm_Mo_over 64 rfl) rfl (Nat.le_of_ble_eq_true rfl) ?_
                refine gi_iload (q := 133) C (dm_Mo_over 65 rfl) rfl rfl ?_
                refine gi_iconst (q := 134) (v := 2) C (dm_Mo_over 66 rfl) rfl (by decide) ?_
                refine gi_irem (q := 135) C (dm_Mo_over 67 rfl) rfl (by decide) ?_
                refine gi_if_ne (q := 138) (tgt := 142) C (dm_Mo_over 68 rfl) rfl (by decide) (fun c135 => ?_) (fun c135 => ?_)
                · refine gi_lload_n (q := 143) (i := 3) C (dm_Mo_over 71 rfl) rfl rfl rfl ?_
                  refine gi_lstore (q := 145) C (dm_Mo_over 72 rfl) rfl (Nat.le_of_ble_eq_true rfl) ?_
                  refine gi_iload (q := 147) C (dm_Mo_over 73 rfl) rfl rfl ?_
                  refine gi_iconst (q := 148) (v := 2) C (dm_Mo_over 74 rfl) rfl (by decide) ?_
                  refine gi_icmp_ge (q := 151) (tgt := 158) C (dm_Mo_over 75 rfl) rfl (by decide) (fun c148 => ?_) (fun c148 => ?_)
                  · refine gi_iload (q := 160) C (dm_Mo_over 79 rfl) rfl rfl ?_
                    refine gi_iconst (q := 161) (v := 4) C (dm_Mo_over 80 rfl) rfl (by decide) ?_
                    refine gi_icmp_ge (q := 164) (tgt := 171) C (dm_Mo_over 81 rfl) rfl (by decide) (fun c161 => ?_) (fun c161 => ?_)
                    · refine gi_iload (q := 173) C (dm_Mo_over 85 rfl) rfl rfl ?_
                      refine gi_bipush (q := 175) (v := 6) C (dm_Mo_over 86 rfl) rfl (by decide) ?_
                      refine gi_icmp_ge (q := 178) (tgt := 185) C (dm_Mo_over 87 rfl) rfl (by decide) (fun c175 => ?_) (fun c175 => ?_)
                      · exact absurd c175 (by decide)
                      · refine gi_aload_n (q := 179) (i := 0) C (dm_Mo_over 88 rfl) rfl rfl rfl ?_
                        refine gi_get (q := 182) C (dm_Mo_over 89 rfl) rfl fl_Mo_333 Ha1 (mo_g27 Hf1) ?_
                        refine gi_goto (tgt := 189) C (dm_Mo_over 90 rfl) (by decide) ?_
                        rw [k27]
                        refine gi_lstore (q := 191) C (dm_Mo_over 93 rfl) rfl (Nat.le_of_ble_eq_true rfl) ?_
                        refine gi_iload (q := 193) C (dm_Mo_over 94 rfl) rfl rfl ?_
                        refine gi_if_eq (q := 196) (tgt := 220) C (dm_Mo_over 95 rfl) rfl (by decide) (fun c193 => ?_) (fun c193 => ?_)
                        · exact absurd c193 (by rw [t30]; decide)
                        · refine gi_lload (q := 198) C (dm_Mo_over 96 rfl) rfl rfl ?_
                          refine gi_lload (q := 200) C (dm_Mo_over 97 rfl) rfl rfl ?_
                          refine gi_lload (q := 202) C (dm_Mo_over 98 rfl) rfl rfl ?_
                          refine gi_ldiv (q := 203) C (dm_Mo_over 99 rfl) rfl (fun z => by rw [eL_0, eL_eq (by omega) (by omega) (by omega) (by omega)] at z; omega) ?_
                          rw [eL_div (by omega) (by omega) (by omega) (by omega)]
                          refine gi_calls 2 (q := 206) C (dm_Mo_over 100 rfl) rfl my_Mo_min lk_Mo_252 sm_Mo_min (c_Mo_min (ovA x (some p) (some q) 5).1 (x.2.1.tdiv q.1) (by omega) (by omega) (by omega) (by omega)) rfl rfl ⟨(Nat.le_of_ble_eq_true rfl), (Nat.le_of_ble_eq_true rfl)⟩ (Nat.le_of_ble_eq_true rfl) ⟨(Nat.le_of_ble_eq_true rfl), (Nat.le_of_ble_eq_true rfl)⟩ (fun r203 n203 h203 e203 => ?_)
                          obtain ⟨rfl, q203, u203⟩ := e203
                          rw [q203, u203]
                          refine gi_lstore (q := 208) C (dm_Mo_over 101 rfl) rfl (Nat.le_of_ble_eq_true rfl) ?_
                          refine gi_lload (q := 210) C (dm_Mo_over 102 rfl) rfl rfl ?_
                          refine gi_lload (q := 212) C (dm_Mo_over 103 rfl) rfl rfl ?_
                          refine gi_lload (q := 214) C (dm_Mo_over 104 rfl) rfl rfl ?_
                          refine gi_ldiv (q := 215) C (dm_Mo_over 105 rfl) rfl (fun z => by rw [eL_0, eL_eq (by omega) (by omega) (by omega) (by omega)] at z; omega) ?_
                          rw [eL_div (by omega) (by omega) (by omega) (by omega)]
                          refine gi_calls 2 (q := 218) C (dm_Mo_over 106 rfl) rfl my_Mo_max lk_Mo_256 sm_Mo_max (c_Mo_max (ovA x (some p) (some q) 5).2 (x.2.1.tdiv q.1) (by omega) (by omega) (by omega) (by omega)) rfl rfl ⟨(Nat.le_of_ble_eq_true rfl), (Nat.le_of_ble_eq_true rfl)⟩ (Nat.le_of_ble_eq_true rfl) ⟨(Nat.le_of_ble_eq_true rfl), (Nat.le_of_ble_eq_true rfl)⟩ (fun r215 n215 h215 e215 => ?_)
                          obtain ⟨rfl, q215, u215⟩ := e215
                          rw [q215, u215]
                          refine gi_lstore (q := 220) C (dm_Mo_over 107 rfl) rfl (Nat.le_of_ble_eq_true rfl) ?_
                          refine gi_iinc (q := 223) (v := 1) C (dm_Mo_over 108 rfl) rfl rfl (by decide) (Nat.le_of_ble_eq_true rfl) ?_
                          refine gi_goto (tgt := 105) C (dm_Mo_over 109 rfl) (by decide) ?_
                          refine gi_close (ih 6 _ ⟨by decide, rfl⟩ (by decide)) (List.forall_mem_cons.mpr ⟨rfl, List.forall_mem_cons.mpr ⟨rfl, List.forall_mem_cons.mpr ⟨rfl, List.forall_mem_cons.mpr ⟨rfl, List.forall_mem_cons.mpr ⟨rfl, List.forall_mem_cons.mpr ⟨rfl, fun _ h => absurd h List.not_mem_nil⟩⟩⟩⟩⟩⟩) rfl rfl rfl
                    · exact absurd (by decide) c161
                  · exact absurd (by decide) c148
                · exact absurd c135 (by decide)
              · exact absurd (by decide) c115
          · subst z
            have ab := ovA_b hx (N := some p) (P := some q) 6
            have tb := tdv_b (a := x.1) (b := q.2.1) (by omega) (by omega)
            refine gi_iload (q := 107) C (dm_Mo_over 53 rfl) rfl rfl ?_
            refine gi_bipush (q := 109) (v := 8) C (dm_Mo_over 54 rfl) rfl (by decide) ?_
            refine gi_icmp_ge (q := 112) (tgt := 226) C (dm_Mo_over 55 rfl) rfl (by decide) (fun c109 => ?_) (fun c109 => ?_)
            · exact absurd c109 (by decide)
            · refine gi_iload (q := 114) C (dm_Mo_over 56 rfl) rfl rfl ?_
              refine gi_iconst (q := 115) (v := 4) C (dm_Mo_over 57 rfl) rfl (by decide) ?_
              refine gi_icmp_ge (q := 118) (tgt := 125) C (dm_Mo_over 58 rfl) rfl (by decide) (fun c115 => ?_) (fun c115 => ?_)
              · refine gi_aload_n (q := 126) (i := 0) C (dm_Mo_over 62 rfl) rfl rfl rfl ?_
                refine gi_get (q := 129) C (dm_Mo_over 63 rfl) rfl fl_Mo_330 Ha1 (mo_g30 Hf1) ?_
                refine gi_istore (q := 131) C (dm_Mo_over 64 rfl) rfl (Nat.le_of_ble_eq_true rfl) ?_
                refine gi_iload (q := 133) C (dm_Mo_over 65 rfl) rfl rfl ?_
                refine gi_iconst (q := 134) (v := 2) C (dm_Mo_over 66 rfl) rfl (by decide) ?_
                refine gi_irem (q := 135) C (dm_Mo_over 67 rfl) rfl (by decide) ?_
                refine gi_if_ne (q := 138) (tgt := 142) C (dm_Mo_over 68 rfl) rfl (by decide) (fun c135 => ?_) (fun c135 => ?_)
                · exact absurd (by decide) c135
                · refine gi_lload_n (q := 139) (i := 1) C (dm_Mo_over 69 rfl) rfl rfl rfl ?_
                  refine gi_goto (tgt := 143) C (dm_Mo_over 70 rfl) (by decide) ?_
                  refine gi_lstore (q := 145) C (dm_Mo_over 72 rfl) rfl (Nat.le_of_ble_eq_true rfl) ?_
                  refine gi_iload (q := 147) C (dm_Mo_over 73 rfl) rfl rfl ?_
                  refine gi_iconst (q := 148) (v := 2) C (dm_Mo_over 74 rfl) rfl (by decide) ?_
                  refine gi_icmp_ge (q := 151) (tgt := 158) C (dm_Mo_over 75 rfl) rfl (by decide) (fun c148 => ?_) (fun c148 => ?_)
                  · refine gi_iload (q := 160) C (dm_Mo_over 79 rfl) rfl rfl ?_
                    refine gi_iconst (q := 161) (v := 4) C (dm_Mo_over 80 rfl) rfl (by decide) ?_
                    refine gi_icmp_ge (q := 164) (tgt := 171) C (dm_Mo_over 81 rfl) rfl (by decide) (fun c161 => ?_) (fun c161 => ?_)
                    · refine gi_iload (q := 173) C (dm_Mo_over 85 rfl) rfl rfl ?_
                      refine gi_bipush (q := 175) (v := 6) C (dm_Mo_over 86 rfl) rfl (by decide) ?_
                      refine gi_icmp_ge (q := 178) (tgt := 185) C (dm_Mo_over 87 rfl) rfl (by decide) (fun c175 => ?_) (fun c175 => ?_)
                      · refine gi_aload_n (q := 186) (i := 0) C (dm_Mo_over 91 rfl) rfl rfl rfl ?_
                        refine gi_get (q := 189) C (dm_Mo_over 92 rfl) rfl fl_Mo_336 Ha1 (mo_g28 Hf1) ?_
                        rw [k28]
                        refine gi_lstore (q := 191) C (dm_Mo_over 93 rfl) rfl (Nat.le_of_ble_eq_true rfl) ?_
                        refine gi_iload (q := 193) C (dm_Mo_over 94 rfl) rfl rfl ?_
                        refine gi_if_eq (q := 196) (tgt := 220) C (dm_Mo_over 95 rfl) rfl (by decide) (fun c193 => ?_) (fun c193 => ?_)
                        · exact absurd c193 (by rw [t30]; decide)
                        · refine gi_lload (q := 198) C (dm_Mo_over 96 rfl) rfl rfl ?_
                          refine gi_lload (q := 200) C (dm_Mo_over 97 rfl) rfl rfl ?_
                          refine gi_lload (q := 202) C (dm_Mo_over 98 rfl) rfl rfl ?_
                          refine gi_ldiv (q := 203) C (dm_Mo_over 99 rfl) rfl (fun z => by rw [eL_0, eL_eq (by omega) (by omega) (by omega) (by omega)] at z; omega) ?_
                          rw [eL_div (by omega) (by omega) (by omega) (by omega)]
                          refine gi_calls 2 (q := 206) C (dm_Mo_over 100 rfl) rfl my_Mo_min lk_Mo_252 sm_Mo_min (c_Mo_min (ovA x (some p) (some q) 6).1 (x.1.tdiv q.2.1) (by omega) (by omega) (by omega) (by omega)) rfl rfl ⟨(Nat.le_of_ble_eq_true rfl), (Nat.le_of_ble_eq_true rfl)⟩ (Nat.le_of_ble_eq_true rfl) ⟨(Nat.le_of_ble_eq_true rfl), (Nat.le_of_ble_eq_true rfl)⟩ (fun r203 n203 h203 e203 => ?_)
                          obtain ⟨rfl, q203, u203⟩ := e203
                          rw [q203, u203]
                          refine gi_lstore (q := 208) C (dm_Mo_over 101 rfl) rfl (Nat.le_of_ble_eq_true rfl) ?_
                          refine gi_lload (q := 210) C (dm_Mo_over 102 rfl) rfl rfl ?_
                          refine gi_lload (q := 212) C (dm_Mo_over 103 rfl) rfl rfl ?_
                          refine gi_lload (q := 214) C (dm_Mo_over 104 rfl) rfl rfl ?_
                          refine gi_ldiv (q := 215) C (dm_Mo_over 105 rfl) rfl (fun z => by rw [eL_0, eL_eq (by omega) (by omega) (by omega) (by omega)] at z; omega) ?_
                          rw [eL_div (by omega) (by omega) (by omega) (by omega)]
                          refine gi_calls 2 (q := 218) C (dm_Mo_over 106 rfl) rfl my_Mo_max lk_Mo_256 sm_Mo_max (c_Mo_max (ovA x (some p) (some q) 6).2 (x.1.tdiv q.2.1) (by omega) (by omega) (by omega) (by omega)) rfl rfl ⟨(Nat.le_of_ble_eq_true rfl), (Nat.le_of_ble_eq_true rfl)⟩ (Nat.le_of_ble_eq_true rfl) ⟨(Nat.le_of_ble_eq_true rfl), (Nat.le_of_ble_eq_true rfl)⟩ (fun r215 n215 h215 e215 => ?_)
                          obtain ⟨rfl, q215, u215⟩ := e215
                          rw [q215, u215]
                          refine gi_lstore (q := 220) C (dm_Mo_over 107 rfl) rfl (Nat.le_of_ble_eq_true rfl) ?_
                          refine gi_iinc (q := 223) (v := 1) C (dm_Mo_over 108 rfl) rfl rfl (by decide) (Nat.le_of_ble_eq_true rfl) ?_
                          refine gi_goto (tgt := 105) C (dm_Mo_over 109 rfl) (by decide) ?_
                          refine gi_close (ih 7 _ ⟨by decide, rfl⟩ (by decide)) (List.forall_mem_cons.mpr ⟨rfl, List.forall_mem_cons.mpr ⟨rfl, List.forall_mem_cons.mpr ⟨rfl, List.forall_mem_cons.mpr ⟨rfl, List.forall_mem_cons.mpr ⟨rfl, List.forall_mem_cons.mpr ⟨rfl, fun _ h => absurd h List.not_mem_nil⟩⟩⟩⟩⟩⟩) rfl rfl rfl
                      · exact absurd (by decide) c175
                    · exact absurd (by decide) c161
                  · exact absurd (by decide) c148
              · exact absurd (by decide) c115
          · subst z
            have ab := ovA_b hx (N := some p) (P := some q) 7
            have tb := tdv_b (a := x.2.1) (b := q.2.1) (by omega) (by omega)
            refine gi_iload (q := 107) C (dm_Mo_over 53 rfl) rfl rfl ?_
            refine gi_bipush (q := 109) (v := 8) C (dm_Mo_over 54 rfl) rfl (by decide) ?_
            refine gi_icmp_ge (q := 112) (tgt := 226) C (dm_Mo_over 55 rfl) rfl (by decide) (fun c109 => ?_) (fun c109 => ?_)
            · exact absurd c109 (by decide)
            · refine gi_iload (q := 114) C (dm_Mo_over 56 rfl) rfl rfl ?_
              refine gi_iconst (q := 115) (v := 4) C (dm_Mo_over 57 rfl) rfl (by decide) ?_
              refine gi_icmp_ge (q := 118) (tgt := 125) C (dm_Mo_over 58 rfl) rfl (by decide) (fun c115 => ?_) (fun c115 => ?_)
              · refine gi_aload_n (q := 126) (i := 0) C (dm_Mo_over 62 rfl) rfl rfl rfl ?_
                refine gi_get (q := 129) C (dm_Mo_over 63 rfl) rfl fl_Mo_330 Ha1 (mo_g30 Hf1) ?_
                refine gi_istore (q := 131) C (dm_Mo_over 64 rfl) rfl (Nat.le_of_ble_eq_true rfl) ?_
                refine gi_iload (q := 133) C (dm_Mo_over 65 rfl) rfl rfl ?_
                refine gi_iconst (q := 134) (v := 2) C (dm_Mo_over 66 rfl) rfl (by decide) ?_
                refine gi_irem (q := 135) C (dm_Mo_over 67 rfl) rfl (by decide) ?_
                refine gi_if_ne (q := 138) (tgt := 142) C (dm_Mo_over 68 rfl) rfl (by decide) (fun c135 => ?_) (fun c135 => ?_)
                · refine gi_lload_n (q := 143) (i := 3) C (dm_Mo_over 71 rfl) rfl rfl rfl ?_
                  refine gi_lstore (q := 145) C (dm_Mo_over 72 rfl) rfl (Nat.le_of_ble_eq_true rfl) ?_
                  refine gi_iload (q := 147) C (dm_Mo_over 73 rfl) rfl rfl ?_
                  refine gi_iconst (q := 148) (v := 2) C (dm_Mo_over 74 rfl) rfl (by decide) ?_
                  refine gi_icmp_ge (q := 151) (tgt := 158) C (dm_Mo_over 75 rfl) rfl (by decide) (fun c148 => ?_) (fun c148 => ?_)
                  · refine gi_iload (q := 160) C (dm_Mo_over 79 rfl) rfl rfl ?_
                    refine gi_iconst (q := 161) (v := 4) C (dm_Mo_over 80 rfl) rfl (by decide) ?_
                    refine gi_icmp_ge (q := 164) (tgt := 171) C (dm_Mo_over 81 rfl) rfl (by decide) (fun c161 => ?_) (fun c161 => ?_)
                    · refine gi_iload (q := 173) C (dm_Mo_over 85 rfl) rfl rfl ?_
                      refine gi_bipush (q := 175) (v := 6) C (dm_Mo_over 86 rfl) rfl (by decide) ?_
                      refine gi_icmp_ge (q := 178) (tgt := 185) C (dm_Mo_over 87 rfl) rfl (by decide) (fun c175 => ?_) (fun c175 => ?_)
                      · refine gi_aload_n (q := 186) (i := 0) C (dm_Mo_over 91 rfl) rfl rfl rfl ?_
                        refine gi_get (q := 189) C (dm_Mo_over 92 rfl) rfl fl_Mo_336 Ha1 (mo_g28 Hf1) ?_
                        rw [k28]
                        refine gi_lstore (q := 191) C (dm_Mo_over 93 rfl) rfl (Nat.le_of_ble_eq_true rfl) ?_
                        refine gi_iload (q := 193) C (dm_Mo_over 94 rfl) rfl rfl ?_
                        refine gi_if_eq (q := 196) (tgt := 220) C (dm_Mo_over 95 rfl) rfl (by decide) (fun c193 => ?_) (fun c193 => ?_)
                        · exact absurd c193 (by rw [t30]; decide)
                        · refine gi_lload (q := 198) C (dm_Mo_over 96 rfl) rfl rfl ?_
                          refine gi_lload (q := 200) C (dm_Mo_over 97 rfl) rfl rfl ?_
                          refine gi_lload (q := 202) C (dm_Mo_over 98 rfl) rfl rfl ?_
                          refine gi_ldiv (q := 203) C (dm_Mo_over 99 rfl) rfl (fun z => by rw [eL_0, eL_eq (by omega) (by omega) (by omega) (by omega)] at z; omega) ?_
                          rw [eL_div (by omega) (by omega) (by omega) (by omega)]
                          refine gi_calls 2 (q := 206) C (dm_Mo_over 100 rfl) rfl my_Mo_min lk_Mo_252 sm_Mo_min (c_Mo_min (ovA x (some p) (some q) 7).1 (x.2.1.tdiv q.2.1) (by omega) (by omega) (by omega) (by omega)) rfl rfl ⟨(Nat.le_of_ble_eq_true rfl), (Nat.le_of_ble_eq_true rfl)⟩ (Nat.le_of_ble_eq_true rfl) ⟨(Nat.le_of_ble_eq_true rfl), (Nat.le_of_ble_eq_true rfl)⟩ (fun r203 n203 h203 e203 => ?_)
                          obtain ⟨rfl, q203, u203⟩ := e203
                          rw [q203, u203]
                          refine gi_lstore (q := 208) C (dm_Mo_over 101 rfl) rfl (Nat.le_of_ble_eq_true rfl) ?_
                          refine gi_lload (q := 210) C (dm_Mo_over 102 rfl) rfl rfl ?_
                          refine gi_lload (q := 212) C (dm_Mo_over 103 rfl) rfl rfl ?_
                          refine gi_lload (q := 214) C (dm_Mo_over 104 rfl) rfl rfl ?_
                          refine gi_ldiv (q := 215) C (dm_Mo_over 105 rfl) rfl (fun z => by rw [eL_0, eL_eq (by omega) (by omega) (by omega) (by omega)] at z; omega) ?_
                          rw [eL_div (by omega) (by omega) (by omega) (by omega)]
                          refine gi_calls 2 (q := 218) C (dm_Mo_over 106 rfl) rfl my_Mo_max lk_Mo_256 sm_Mo_max (c_Mo_max (ovA x (some p) (some q) 7).2 (x.2.1.tdiv q.2.1) (by omega) (by omega) (by omega) (by omega)) rfl rfl ⟨(Nat.le_of_ble_eq_true rfl), (Nat.le_of_ble_eq_true rfl)⟩ (Nat.le_of_ble_eq_true rfl) ⟨(Nat.le_of_ble_eq_true rfl), (Nat.le_of_ble_eq_true rfl)⟩ (fun r215 n215 h215 e215 => ?_)
                          obtain ⟨rfl, q215, u215⟩ := e215
                          rw [q215, u215]
                          refine gi_lstore (q := 220) C (dm_Mo_over 107 rfl) rfl (Nat.le_of_ble_eq_true rfl) ?_
                          refine gi_iinc (q := 223) (v := 1) C (dm_Mo_over 108 rfl) rfl rfl (by decide) (Nat.le_of_ble_eq_true rfl) ?_
                          refine gi_goto (tgt := 105) C (dm_Mo_over 109 rfl) (by decide) ?_
                          refine gi_close (ih 8 _ ⟨by decide, rfl⟩ (by decide)) (List.forall_mem_cons.mpr ⟨rfl, List.forall_mem_cons.mpr ⟨rfl, List.forall_mem_cons.mpr ⟨rfl, List.forall_mem_cons.mpr ⟨rfl, List.forall_mem_cons.mpr ⟨rfl, List.forall_mem_cons.mpr ⟨rfl, fun _ h => absurd h List.not_mem_nil⟩⟩⟩⟩⟩⟩) rfl rfl rfl
                      · exact absurd (by decide) c175
                    · exact absurd (by decide) c161
                  · exact absurd (by decide) c148
                · exact absurd c135 (by decide)
              · exact absurd (by decide) c115
        · have j8 : j = 8 := by omega
          subst j8
          have ab := ovA_b hx (N := some p) (P := some q) 8
          refine gi_iload (q := 107) C (dm_Mo_over 53 rfl) rfl rfl ?_
          refine gi_bipush (q := 109) (v := 8) C (dm_Mo_over 54 rfl) rfl (by decide) ?_
          refine gi_icmp_ge (q := 112) (tgt := 226) C (dm_Mo_over 55 rfl) rfl (by decide) (fun c109 => ?_) (fun c109 => ?_)
          · refine gi_aload_n (q := 227) (i := 0) C (dm_Mo_over 110 rfl) rfl rfl rfl ?_
            refine gi_lload (q := 229) C (dm_Mo_over 111 rfl) rfl rfl ?_
            refine gi_lload (q := 231) C (dm_Mo_over 112 rfl) rfl rfl ?_
            refine gi_lconst (q := 232) (v := 1) C (dm_Mo_over 113 rfl) rfl (by decide) ?_
            rw [eL_1]
            refine gi_callv 3 (q := 235) C (dm_Mo_over 114 rfl) rfl my_Mo_set lk_Mo_262 im_Mo_set rfl (c_Mo_set (ovA x (some p) (some q) 8).1 (ovA x (some p) (some q) 8).2 1 (by omega) (by omega) (by omega) (by omega) H1) Ha1 rfl rfl ⟨(Nat.le_of_ble_eq_true rfl), (Nat.le_of_ble_eq_true rfl)⟩ (Nat.le_of_ble_eq_true rfl) ⟨(Nat.le_of_ble_eq_true rfl), (Nat.le_of_ble_eq_true rfl)⟩ (fun r232 n232 h232 e232 => ?_)
            obtain ⟨rfl, rfl, W232⟩ := e232
            refine gi_vret C hr (dm_Mo_over 115 rfl) ?_
            rw [show overS x d = mkS (ovA x (some p) (some q) 8).1 (ovA x (some p) (some q) 8).2 1 from by
              unfold overS
              rw [if_neg n0, if_neg n1, en, ep]
              dsimp only
              have bq := quo_b2 (p := q) hx
              rw [ovA_p, ovA_n hx]]
            exact ⟨rfl, rfl, W232.p.tr o1 r1⟩
          · exact absurd (by decide) c109
  refine gi_lload_n (q := 1) (i := 1) C (dm_Mo_over 0 rfl) rfl rfl rfl ?_
  refine gi_lload_n (q := 2) (i := 3) C (dm_Mo_over 1 rfl) rfl rfl rfl ?_
  refine gi_lcmp (q := 3) C (dm_Mo_over 2 rfl) rfl ?_
  refine gi_if_ne (q := 6) (tgt := 53) C (dm_Mo_over 3 rfl) rfl (by decide) (fun c3 => ?_) (fun c3 => ?_)
  · refine gi_lload_n (q := 54) (i := 1) C (dm_Mo_over 28 rfl) rfl rfl rfl ?_
    refine gi_ldc2 (q := 57) C (dm_Mo_over 29 rfl) rfl kc_Mo_273 ?_
    refine gi_lcmp (q := 58) C (dm_Mo_over 30 rfl) rfl ?_
    refine gi_if_ne (q := 61) (tgt := 82) C (dm_Mo_over 31 rfl) rfl (by decide) (fun c58 => ?_) (fun c58 => ?_)
    · have n0 : ¬ (x.1 = x.2.1 ∧ d.1 = d.2.1) := by
        (try simp (disch := omega) only [lg_cmp_ge, lg_cmp_le, lg_cmp_gt, lg_cmp_lt, lg_cmp_eq, eL_0, eL_1, eL_m1, eL_LO, eL_HI, eL_W, eL_add, eL_sub, eL_mul, eL_neg, eL_lt, eL_le, eL_eq, eL_remN, eL_mod0, ne_eq, Int64.not_lt, Int64.not_le] at c3)
        (try simp (disch := omega) only [lg_cmp_ge, lg_cmp_le, lg_cmp_gt, lg_cmp_lt, lg_cmp_eq, eL_0, eL_1, eL_m1, eL_LO, eL_HI, eL_W, eL_add, eL_sub, eL_mul, eL_neg, eL_lt, eL_le, eL_eq, eL_remN, eL_mod0, ne_eq, Int64.not_lt, Int64.not_le] at c11)
        omega
      have n1 : ¬ (x.1 = -2147483648 ∧ hasS d (-1) = true) := by
        (try simp (disch := omega) only [lg_cmp_ge, lg_cmp_le, lg_cmp_gt, lg_cmp_lt, lg_cmp_eq, eL_0, eL_1, eL_m1, eL_LO, eL_HI, eL_W, eL_add, eL_sub, eL_mul, eL_neg, eL_lt, eL_le, eL_eq, eL_remN, eL_mod0, ne_eq, Int64.not_lt, Int64.not_le] at c58)
        first
          | omega
          | (rintro ⟨-, z⟩; rw [bI_fa c73] at z; cases z)
      exact gi_close (hJ () _ ⟨rfl, n0, n1⟩) (List.forall_mem_cons.mpr ⟨rfl, List.forall_mem_cons.mpr ⟨rfl, List.forall_mem_cons.mpr ⟨rfl, List.forall_mem_cons.mpr ⟨rfl, List.forall_mem_cons.mpr ⟨rfl, List.forall_mem_cons.mpr ⟨rfl, fun _ h => absurd h List.not_mem_nil⟩⟩⟩⟩⟩⟩) rfl rfl rfl
    · refine gi_lload (q := 63) C (dm_Mo_over 32 rfl) rfl rfl ?_
      refine gi_lload (q := 65) C (dm_Mo_over 33 rfl) rfl rfl ?_
      refine gi_lload (q := 67) C (dm_Mo_over 34 rfl) rfl rfl ?_
      refine gi_ldc2 (q := 70) C (dm_Mo_over 35 rfl) rfl kc_Mo_311 ?_
      rw [eL_m1]
      refine gi_calls 4 (q := 73) C (dm_Mo_over 36 rfl) rfl my_Mo_has lk_Mo_340 sm_Mo_has (c_Mo_has d (-1) hd (by decide) (by decide)) rfl rfl ⟨(Nat.le_of_ble_eq_true rfl), (Nat.le_of_ble_eq_true rfl)⟩ (Nat.le_of_ble_eq_true rfl) ⟨(Nat.le_of_ble_eq_true rfl), (Nat.le_of_ble_eq_true rfl)⟩ (fun r70 n70 h70 e70 => ?_)
      obtain ⟨rfl, q70, u70⟩ := e70
      rw [q70, u70]
      refine gi_if_eq (q := 76) (tgt := 82) C (dm_Mo_over 37 rfl) rfl (by decide) (fun c73 => ?_) (fun c73 => ?_)
      · have n0 : ¬ (x.1 = x.2.1 ∧ d.1 = d.2.1) := by
          (try simp (disch := omega) only [lg_cmp_ge, lg_cmp_le, lg_cmp_gt, lg_cmp_lt, lg_cmp_eq, eL_0, eL_1, eL_m1, eL_LO, eL_HI, eL_W, eL_add, eL_sub, eL_mul, eL_neg, eL_lt, eL_le, eL_eq, eL_remN, eL_mod0, ne_eq, Int64.not_lt, Int64.not_le] at c3)
          (try simp (disch := omega) only [lg_cmp_ge, lg_cmp_le, lg_cmp_gt, lg_cmp_lt, lg_cmp_eq, eL_0, eL_1, eL_m1, eL_LO, eL_HI, eL_W, eL_add, eL_sub, eL_mul, eL_neg, eL_lt, eL_le, eL_eq, eL_remN, eL_mod0, ne_eq, Int64.not_lt, Int64.not_le] at c11)
          omega
        have n1 : ¬ (x.1 = -2147483648 ∧ hasS d (-1) = true) := by
          (try simp (disch := omega) only [lg_cmp_ge, lg_cmp_le, lg_cmp_gt, lg_cmp_lt, lg_cmp_eq, eL_0, eL_1, eL_m1, eL_LO, eL_HI, eL_W, eL_add, eL_sub, eL_mul, eL_neg, eL_lt, eL_le, eL_eq, eL_remN, eL_mod0, ne_eq, Int64.not_lt, Int64.not_le] at c58)
          first
            | omega
            | (rintro ⟨-, z⟩; rw [bI_fa c73] at z; cases z)
        exact gi_close (hJ () _ ⟨rfl, n0, n1⟩) (List.forall_mem_cons.mpr ⟨rfl, List.forall_mem_cons.mpr ⟨rfl, List.forall_mem_cons.mpr ⟨rfl, List.forall_mem_cons.mpr ⟨rfl, List.forall_mem_cons.mpr ⟨rfl, List.forall_mem_cons.mpr ⟨rfl, fun _ h => absurd h List.not_mem_nil⟩⟩⟩⟩⟩⟩) rfl rfl rfl
      · refine gi_aload_n (q := 77) (i := 0) C (dm_Mo_over 38 rfl) rfl rfl rfl ?_
        refine gi_lconst (q := 78) (v := 1) C (dm_Mo_over 39 rfl) rfl (by decide) ?_
        rw [eL_1]
        refine gi_callv 1 (q := 81) C (dm_Mo_over 40 rfl) rfl my_Mo_all lk_Mo_295 im_Mo_all rfl (c_Mo_all H) Ha rfl rfl ⟨(Nat.le_of_ble_eq_true rfl), (Nat.le_of_ble_eq_true rfl)⟩ (Nat.le_of_ble_eq_true rfl) ⟨(Nat.le_of_ble_eq_true rfl), (Nat.le_of_ble_eq_true rfl)⟩ (fun r78 n78 h78 e78 => ?_)
        obtain ⟨rfl, rfl, W78⟩ := e78
        refine gi_vret C hr (dm_Mo_over 41 rfl) ?_
        (try simp (disch := omega) only [lg_cmp_ge, lg_cmp_le, lg_cmp_gt, lg_cmp_lt, lg_cmp_eq, eL_0, eL_1, eL_m1, eL_LO, eL_HI, eL_W, eL_add, eL_sub, eL_mul, eL_neg, eL_lt, eL_le, eL_eq, eL_remN, eL_mod0, ne_eq, Int64.not_lt, Int64.not_le] at c3)
        (try simp (disch := omega) only [lg_cmp_ge, lg_cmp_le, lg_cmp_gt, lg_cmp_lt, lg_cmp_eq, eL_0, eL_1, eL_m1, eL_LO, eL_HI, eL_W, eL_add, eL_sub, eL_mul, eL_neg, eL_lt, eL_le, eL_eq, eL_remN, eL_mod0, ne_eq, Int64.not_lt, Int64.not_le] at c11)
        (try simp (disch := omega) only [lg_cmp_ge, lg_cmp_le, lg_cmp_gt, lg_cmp_lt, lg_cmp_eq, eL_0, eL_1, eL_m1, eL_LO, eL_HI, eL_W, eL_add, eL_sub, eL_mul, eL_neg, eL_lt, eL_le, eL_eq, eL_remN, eL_mod0, ne_eq, Int64.not_lt, Int64.not_le] at c58)
        rw [show overS x d = allS from by
          unfold overS
          rw [if_neg (by omega), if_pos ⟨by omega, bI_t c73⟩]]
        exact ⟨rfl, rfl, W78.p⟩
  · refine gi_lload (q := 8) C (dm_Mo_over 4 rfl) rfl rfl ?_
    refine gi_lload (q := 10) C (dm_Mo_over 5 rfl) rfl rfl ?_
    refine gi_lcmp (q := 11) C (dm_Mo_over 6 rfl) rfl ?_
    refine gi_if_ne (q := 14) (tgt := 53) C (dm_Mo_over 7 rfl) rfl (by decide) (fun c11 => ?_) (fun c11 => ?_)
    · refine gi_lload_n (q := 54) (i := 1) C (dm_Mo_over 28 rfl) rfl rfl rfl ?_
      refine gi_ldc2 (q := 57) C (dm_Mo_over 29 rfl) rfl kc_Mo_273 ?_
      refine gi_lcmp (q := 58) C (dm_Mo_over 30 rfl) rfl ?_
      refine gi_if_ne (q := 61) (tgt := 82) C (dm_Mo_over 31 rfl) rfl (by decide) (fun c58 => ?_) (fun c58 => ?_)
      · have n0 : ¬ (x.1 = x.2.1 ∧ d.1 = d.2.1) := by
          (try simp (disch := omega) only [lg_cmp_ge, lg_cmp_le, lg_cmp_gt, lg_cmp_lt, lg_cmp_eq, eL_0, eL_1, eL_m1, eL_LO, eL_HI, eL_W, eL_add, eL_sub, eL_mul, eL_neg, eL_lt, eL_le, eL_eq, eL_remN, eL_mod0, ne_eq, Int64.not_lt, Int64.not_le] at c3)
          (try simp (disch := omega) only [lg_cmp_ge, lg_cmp_le, lg_cmp_gt, lg_cmp_lt, lg_cmp_eq, eL_0, eL_1, eL_m1, eL_LO, eL_HI, eL_W, eL_add, eL_sub, eL_mul, eL_neg, eL_lt, eL_le, eL_eq, eL_remN, eL_mod0, ne_eq, Int64.not_lt, Int64.not_le] at c11)
          omega
        have n1 : ¬ (x.1 = -2147483648 ∧ hasS d (-1) = true) := by
          (try simp (disch := omega) only [lg_cmp_ge, lg_cmp_le, lg_cmp_gt, lg_cmp_lt, lg_cmp_eq, eL_0, eL_1, eL_m1, eL_LO, eL_HI, eL_W, eL_add, eL_sub, eL_mul, eL_neg, eL_lt, eL_le, eL_eq, eL_remN, eL_mod0, ne_eq, Int64.not_lt, Int64.not_le] at c58)
          first
            | omega
            | (rintro ⟨-, z⟩; rw [bI_fa c73] at z; cases z)
        exact gi_close (hJ () _ ⟨rfl, n0, n1⟩) (List.forall_mem_cons.mpr ⟨rfl, List.forall_mem_cons.mpr ⟨rfl, List.forall_mem_cons.mpr ⟨rfl, List.forall_mem_cons.mpr ⟨rfl, List.forall_mem_cons.mpr ⟨rfl, List.forall_mem_cons.mpr ⟨rfl, fun _ h => absurd h List.not_mem_nil⟩⟩⟩⟩⟩⟩) rfl rfl rfl
      · refine gi_lload (q := 63) C (dm_Mo_over 32 rfl) rfl rfl ?_
        refine gi_lload (q := 65) C (dm_Mo_over 33 rfl) rfl rfl ?_
        refine gi_lload (q := 67) C (dm_Mo_over 34 rfl) rfl rfl ?_
        refine gi_ldc2 (q := 70) C (dm_Mo_over 35 rfl) rfl kc_Mo_311 ?_
        rw [eL_m1]
        refine gi_calls 4 (q := 73) C (dm_Mo_over 36 rfl) rfl my_Mo_has lk_Mo_340 sm_Mo_has (c_Mo_has d (-1) hd (by decide) (by decide)) rfl rfl ⟨(Nat.le_of_ble_eq_true rfl), (Nat.le_of_ble_eq_true rfl)⟩ (Nat.le_of_ble_eq_true rfl) ⟨(Nat.le_of_ble_eq_true rfl), (Nat.le_of_ble_eq_true rfl)⟩ (fun r70 n70 h70 e70 => ?_)
        obtain ⟨rfl, q70, u70⟩ := e70
        rw [q70, u70]
        refine gi_if_eq (q := 76) (tgt := 82) C (dm_Mo_over 37 rfl) rfl (by decide) (fun c73 => ?_) (fun c73 => ?_)
        · have n0 : ¬ (x.1 = x.2.1 ∧ d.1 = d.2.1) := by
            (try simp (disch := omega) only [lg_cmp_ge, lg_cmp_le, lg_cmp_gt, lg_cmp_lt, lg_cmp_eq, eL_0, eL_1, eL_m1, eL_LO, eL_HI, eL_W, eL_add, eL_sub, eL_mul, eL_neg, eL_lt, eL_le, eL_eq, eL_remN, eL_mod0, ne_eq, Int64.not_lt, Int64.not_le] at c3)
            (try simp (disch := omega) only [lg_cmp_ge, lg_cmp_le, lg_cmp_gt, lg_cmp_lt, lg_cmp_eq, eL_0, eL_1, eL_m1, eL_LO, eL_HI, eL_W, eL_add, eL_sub, eL_mul, eL_neg, eL_lt, eL_le, eL_eq, eL_remN, eL_mod0, ne_eq, Int64.not_lt, Int64.not_le] at c11)
            omega
          have n1 : ¬ (x.1 = -2147483648 ∧ hasS d (-1) = true) := by
            (try simp (disch := omega) only [lg_cmp_ge, lg_cmp_le, lg_cmp_gt, lg_cmp_lt, lg_cmp_eq, eL_0, eL_1, eL_m1, eL_LO, eL_HI, eL_W, eL_add, eL_sub, eL_mul, eL_neg, eL_lt, eL_le, eL_eq, eL_remN, eL_mod0, ne_eq, Int64.not_lt, Int64.not_le] at c58)
            first
              | omega
              | (rintro ⟨-, z⟩; rw [bI_fa c73] at z; cases z)
          exact gi_close (hJ () _ ⟨rfl, n0, n1⟩) (List.forall_mem_cons.mpr ⟨rfl, List.forall_mem_cons.mpr ⟨rfl, List.forall_mem_cons.mpr ⟨rfl, List.forall_mem_cons.mpr ⟨rfl, List.forall_mem_cons.mpr ⟨rfl, List.forall_mem_cons.mpr ⟨rfl, fun _ h => absurd h List.not_mem_nil⟩⟩⟩⟩⟩⟩) rfl rfl rfl
        · refine gi_aload_n (q := 77) (i := 0) C (dm_Mo_over 38 rfl) rfl rfl rfl ?_
          refine gi_lconst (q := 78) (v := 1) C (dm_Mo_over 39 rfl) rfl (by decide) ?_
          rw [eL_1]
          refine gi_callv 1 (q := 81) C (dm_Mo_over 40 rfl) rfl my_Mo_all lk_Mo_295 im_Mo_all rfl (c_Mo_all H) Ha rfl rfl ⟨(Nat.le_of_ble_eq_true rfl), (Nat.le_of_ble_eq_true rfl)⟩ (Nat.le_of_ble_eq_true rfl) ⟨(Nat.le_of_ble_eq_true rfl), (Nat.le_of_ble_eq_true rfl)⟩ (fun r78 n78 h78 e78 => ?_)
          obtain ⟨rfl, rfl, W78⟩ := e78
          refine gi_vret C hr (dm_Mo_over 41 rfl) ?_
          (try simp (disch := omega) only [lg_cmp_ge, lg_cmp_le, lg_cmp_gt, lg_cmp_lt, lg_cmp_eq, eL_0, eL_1, eL_m1, eL_LO, eL_HI, eL_W, eL_add, eL_sub, eL_mul, eL_neg, eL_lt, eL_le, eL_eq, eL_remN, eL_mod0, ne_eq, Int64.not_lt, Int64.not_le] at c3)
          (try simp (disch := omega) only [lg_cmp_ge, lg_cmp_le, lg_cmp_gt, lg_cmp_lt, lg_cmp_eq, eL_0, eL_1, eL_m1, eL_LO, eL_HI, eL_W, eL_add, eL_sub, eL_mul, eL_neg, eL_lt, eL_le, eL_eq, eL_remN, eL_mod0, ne_eq, Int64.not_lt, Int64.not_le] at c11)
          (try simp (disch := omega) only [lg_cmp_ge, lg_cmp_le, lg_cmp_gt, lg_cmp_lt, lg_cmp_eq, eL_0, eL_1, eL_m1, eL_LO, eL_HI, eL_W, eL_add, eL_sub, eL_mul, eL_neg, eL_lt, eL_le, eL_eq, eL_remN, eL_mod0, ne_eq, Int64.not_lt, Int64.not_le] at c58)
          rw [show overS x d = allS from by
            unfold overS
            rw [if_neg (by omega), if_pos ⟨by omega, bI_t c73⟩]]
          exact ⟨rfl, rfl, W78.p⟩
    · refine gi_lload_n (q := 15) (i := 1) C (dm_Mo_over 8 rfl) rfl rfl rfl ?_
      refine gi_l2i (q := 16) C (dm_Mo_over 9 rfl) rfl ?_
      refine gi_ldcw (q := 19) C (dm_Mo_over 10 rfl) rfl kc_Mo_339 ?_
      refine gi_icmp_ne (q := 22) (tgt := 37) C (dm_Mo_over 11 rfl) rfl (by decide) (fun c19 => ?_) (fun c19 => ?_)
      · (try simp (disch := omega) only [lg_cmp_ge, lg_cmp_le, lg_cmp_gt, lg_cmp_lt, lg_cmp_eq, eL_0, eL_1, eL_m1, eL_LO, eL_HI, eL_W, eL_add, eL_sub, eL_mul, eL_neg, eL_lt, eL_le, eL_eq, eL_remN, eL_mod0, ne_eq, Int64.not_lt, Int64.not_le] at c3)
        (try simp (disch := omega) only [lg_cmp_ge, lg_cmp_le, lg_cmp_gt, lg_cmp_lt, lg_cmp_eq, eL_0, eL_1, eL_m1, eL_LO, eL_HI, eL_W, eL_add, eL_sub, eL_mul, eL_neg, eL_lt, eL_le, eL_eq, eL_remN, eL_mod0, ne_eq, Int64.not_lt, Int64.not_le] at c11)
        have dz : ¬ eL d.1 = 0 := fun z => by
          rw [eL_0, eL_eq (by omega) (by omega) (by omega) (by omega)] at z
          exact h0 ⟨by omega, by omega⟩
        refine gi_lload_n (q := 38) (i := 1) C (dm_Mo_over 18 rfl) rfl rfl rfl ?_
        refine gi_lload (q := 40) C (dm_Mo_over 19 rfl) rfl rfl ?_
        refine gi_ldiv (q := 41) C (dm_Mo_over 20 rfl) rfl dz ?_
        refine gi_lstore (q := 43) C (dm_Mo_over 21 rfl) rfl (Nat.le_of_ble_eq_true rfl) ?_
        refine gi_aload_n (q := 44) (i := 0) C (dm_Mo_over 22 rfl) rfl rfl rfl ?_
        refine gi_lload (q := 46) C (dm_Mo_over 23 rfl) rfl rfl ?_
        refine gi_lload (q := 48) C (dm_Mo_over 24 rfl) rfl rfl ?_
        refine gi_lconst (q := 49) (v := 0) C (dm_Mo_over 25 rfl) rfl (by decide) ?_
        rw [eL_div (by omega) (by omega) (by omega) (by omega)]
        refine gi_callv 3 (q := 52) C (dm_Mo_over 26 rfl) rfl my_Mo_set lk_Mo_262 im_Mo_set rfl (c_Mo_set_same (eL (x.1.tdiv d.1)) H) Ha rfl rfl ⟨(Nat.le_of_ble_eq_true rfl), (Nat.le_of_ble_eq_true rfl)⟩ (Nat.le_of_ble_eq_true rfl) ⟨(Nat.le_of_ble_eq_true rfl), (Nat.le_of_ble_eq_true rfl)⟩ (fun r49 n49 h49 e49 => ?_)
        obtain ⟨rfl, rfl, W49⟩ := e49
        refine gi_vret C hr (dm_Mo_over 27 rfl) ?_
        (try simp (disch := omega) only [lg_cmp_ge, lg_cmp_le, lg_cmp_gt, lg_cmp_lt, lg_cmp_eq, eL_0, eL_1, eL_m1, eL_LO, eL_HI, eL_W, eL_add, eL_sub, eL_mul, eL_neg, eL_lt, eL_le, eL_eq, eL_remN, eL_mod0, ne_eq, Int64.not_lt, Int64.not_le] at c3)
        (try simp (disch := omega) only [lg_cmp_ge, lg_cmp_le, lg_cmp_gt, lg_cmp_lt, lg_cmp_eq, eL_0, eL_1, eL_m1, eL_LO, eL_HI, eL_W, eL_add, eL_sub, eL_mul, eL_neg, eL_lt, eL_le, eL_eq, eL_remN, eL_mod0, ne_eq, Int64.not_lt, Int64.not_le] at c11)
        (try simp (disch := omega) only [lg_cmp_ge, lg_cmp_le, lg_cmp_gt, lg_cmp_lt, lg_cmp_eq, eL_0, eL_1, eL_m1, eL_LO, eL_HI, eL_W, eL_add, eL_sub, eL_mul, eL_neg, eL_lt, eL_le, eL_eq, eL_remN, eL_mod0, ne_eq, Int64.not_lt, Int64.not_le] at c28)
        (try rw [jl] at c19)
        have tb := tdv_b (a := x.1) (b := d.1) (by omega) (by omega)
        rw [show overS x d = ((eL (x.1.tdiv d.1)).toInt, (eL (x.1.tdiv d.1)).toInt, 0) from by
          rw [eL_toInt (by omega) (by omega)]
          unfold overS
          rw [if_pos ⟨by omega, by omega⟩, if_neg (by omega)]]
        exact ⟨rfl, rfl, W49.p⟩
      · refine gi_lload (q := 24) C (dm_Mo_over 12 rfl) rfl rfl ?_
        refine gi_ldc2 (q := 27) C (dm_Mo_over 13 rfl) rfl kc_Mo_311 ?_
        refine gi_lcmp (q := 28) C (dm_Mo_over 14 rfl) rfl ?_
        refine gi_if_ne (q := 31) (tgt := 37) C (dm_Mo_over 15 rfl) rfl (by decide) (fun c28 => ?_) (fun c28 => ?_)
        · (try simp (disch := omega) only [lg_cmp_ge, lg_cmp_le, lg_cmp_gt, lg_cmp_lt, lg_cmp_eq, eL_0, eL_1, eL_m1, eL_LO, eL_HI, eL_W, eL_add, eL_sub, eL_mul, eL_neg, eL_lt, eL_le, eL_eq, eL_remN, eL_mod0, ne_eq, Int64.not_lt, Int64.not_le] at c3)
          (try simp (disch := omega) only [lg_cmp_ge, lg_cmp_le, lg_cmp_gt, lg_cmp_lt, lg_cmp_eq, eL_0, eL_1, eL_m1, eL_LO, eL_HI, eL_W, eL_add, eL_sub, eL_mul, eL_neg, eL_lt, eL_le, eL_eq, eL_remN, eL_mod0, ne_eq, Int64.not_lt, Int64.not_le] at c11)
          have dz : ¬ eL d.1 = 0 := fun z => by
            rw [eL_0, eL_eq (by omega) (by omega) (by omega) (by omega)] at z
            exact h0 ⟨by omega, by omega⟩
          refine gi_lload_n (q := 38) (i := 1) C (dm_Mo_over 18 rfl) rfl rfl rfl ?_
          refine gi_lload (q := 40) C (dm_Mo_over 19 rfl) rfl rfl ?_
          refine gi_ldiv (q := 41) C (dm_Mo_over 20 rfl) rfl dz ?_
          refine gi_lstore (q := 43) C (dm_Mo_over 21 rfl) rfl (Nat.le_of_ble_eq_true rfl) ?_
          refine gi_aload_n (q := 44) (i := 0) C (dm_Mo_over 22 rfl) rfl rfl rfl ?_
          refine gi_lload (q := 46) C (dm_Mo_over 23 rfl) rfl rfl ?_
          refine gi_lload (q := 48) C (dm_Mo_over 24 rfl) rfl rfl ?_
          refine gi_lconst (q := 49) (v := 0) C (dm_Mo_over 25 rfl) rfl (by decide) ?_
          rw [eL_div (by omega) (by omega) (by omega) (by omega)]
          refine gi_callv 3 (q := 52) C (dm_Mo_over 26 rfl) rfl my_Mo_set lk_Mo_262 im_Mo_set rfl (c_Mo_set_same (eL (x.1.tdiv d.1)) H) Ha rfl rfl ⟨(Nat.le_of_ble_eq_true rfl), (Nat.le_of_ble_eq_true rfl)⟩ (Nat.le_of_ble_eq_true rfl) ⟨(Nat.le_of_ble_eq_true rfl), (Nat.le_of_ble_eq_true rfl)⟩ (fun r49 n49 h49 e49 => ?_)
          obtain ⟨rfl, rfl, W49⟩ := e49
          refine gi_vret C hr (dm_Mo_over 27 rfl) ?_
          (try simp (disch := omega) only [lg_cmp_ge, lg_cmp_le, lg_cmp_gt, lg_cmp_lt, lg_cmp_eq, eL_0, eL_1, eL_m1, eL_LO, eL_HI, eL_W, eL_add, eL_sub, eL_mul, eL_neg, eL_lt, eL_le, eL_eq, eL_remN, eL_mod0, ne_eq, Int64.not_lt, Int64.not_le] at c3)
          (try simp (disch := omega) only [lg_cmp_ge, lg_cmp_le, lg_cmp_gt, lg_cmp_lt, lg_cmp_eq, eL_0, eL_1, eL_m1, eL_LO, eL_HI, eL_W, eL_add, eL_sub, eL_mul, eL_neg, eL_lt, eL_le, eL_eq, eL_remN, eL_mod0, ne_eq, Int64.not_lt, Int64.not_le] at c11)
          (try simp (disch := omega) only [lg_cmp_ge, lg_cmp_le, lg_cmp_gt, lg_cmp_lt, lg_cmp_eq, eL_0, eL_1, eL_m1, eL_LO, eL_HI, eL_W, eL_add, eL_sub, eL_mul, eL_neg, eL_lt, eL_le, eL_eq, eL_remN, eL_mod0, ne_eq, Int64.not_lt, Int64.not_le] at c28)
          (try rw [jl] at c19)
          have tb := tdv_b (a := x.1) (b := d.1) (by omega) (by omega)
          rw [show overS x d = ((eL (x.1.tdiv d.1)).toInt, (eL (x.1.tdiv d.1)).toInt, 0) from by
            rw [eL_toInt (by omega) (by omega)]
            unfold overS
            rw [if_pos ⟨by omega, by omega⟩, if_neg (by omega)]]
          exact ⟨rfl, rfl, W49.p⟩
        · refine gi_ldc2 (q := 34) C (dm_Mo_over 16 rfl) rfl kc_Mo_273 ?_
          refine gi_goto (tgt := 41) C (dm_Mo_over 17 rfl) (by decide) ?_
          refine gi_lstore (q := 43) C (dm_Mo_over 21 rfl) rfl (Nat.le_of_ble_eq_true rfl) ?_
          refine gi_aload_n (q := 44) (i := 0) C (dm_Mo_over 22 rfl) rfl rfl rfl ?_
          refine gi_lload (q := 46) C (dm_Mo_over 23 rfl) rfl rfl ?_
          refine gi_lload (q := 48) C (dm_Mo_over 24 rfl) rfl rfl ?_
          refine gi_lconst (q := 49) (v := 0) C (dm_Mo_over 25 rfl) rfl (by decide) ?_
          rw [eL_LO]
          refine gi_callv 3 (q := 52) C (dm_Mo_over 26 rfl) rfl my_Mo_set lk_Mo_262 im_Mo_set rfl (c_Mo_set_same (eL (-2147483648)) H) Ha rfl rfl ⟨(Nat.le_of_ble_eq_true rfl), (Nat.le_of_ble_eq_true rfl)⟩ (Nat.le_of_ble_eq_true rfl) ⟨(Nat.le_of_ble_eq_true rfl), (Nat.le_of_ble_eq_true rfl)⟩ (fun r49 n49 h49 e49 => ?_)
          obtain ⟨rfl, rfl, W49⟩ := e49
          refine gi_vret C hr (dm_Mo_over 27 rfl) ?_
          (try simp (disch := omega) only [lg_cmp_ge, lg_cmp_le, lg_cmp_gt, lg_cmp_lt, lg_cmp_eq, eL_0, eL_1, eL_m1, eL_LO, eL_HI, eL_W, eL_add, eL_sub, eL_mul, eL_neg, eL_lt, eL_le, eL_eq, eL_remN, eL_mod0, ne_eq, Int64.not_lt, Int64.not_le] at c3)
          (try simp (disch := omega) only [lg_cmp_ge, lg_cmp_le, lg_cmp_gt, lg_cmp_lt, lg_cmp_eq, eL_0, eL_1, eL_m1, eL_LO, eL_HI, eL_W, eL_add, eL_sub, eL_mul, eL_neg, eL_lt, eL_le, eL_eq, eL_remN, eL_mod0, ne_eq, Int64.not_lt, Int64.not_le] at c11)
          (try simp (disch := omega) only [lg_cmp_ge, lg_cmp_le, lg_cmp_gt, lg_cmp_lt, lg_cmp_eq, eL_0, eL_1, eL_m1, eL_LO, eL_HI, eL_W, eL_add, eL_sub, eL_mul, eL_neg, eL_lt, eL_le, eL_eq, eL_remN, eL_mod0, ne_eq, Int64.not_lt, Int64.not_le] at c28)
          (try rw [jl] at c19)
          rw [show overS x d = ((eL (-2147483648)).toInt, (eL (-2147483648)).toInt, 0) from by
            unfold overS
            rw [if_pos ⟨by omega, by omega⟩, if_pos ⟨by omega, by omega⟩]
            decide]
          exact ⟨rfl, rfl, W49.p⟩
end RN8
