-- needs: 89.81
section RCD
variable {l : Launch} {V : gi_V} {n : Nat} {h h' : gi_H} {M k m i : Nat} {P : Pm} {x : Sh} {sh : Nat → Option Sh} {S S' : Nat → Int32} {J J' : Nat → Int64} {F F' : Nat → Nat → Int32} {G G' : Nat → Nat → Int64} {f g : Nat → Sl} {n0 : Nat} {r : Rw} {Ff : Fa} {Z : Fa × Bool} {md p t : Nat} {S0 S1 S2 : Nat → Int32} {J0 J1 J2 : Nat → Int64} {F0 F1 F2 : Nat → Nat → Int32} {G0 G1 G2 : Nat → Nat → Int64} {y y' : gi_H} {L : Nat} {κ : (Nat → Ce) × Int32} {c : Nat}
set_option maxHeartbeats 4000000 in
set_option maxRecDepth 100000 in
theorem ww_call (HW : WW M k P sh md Ff κ h S0 J0 F0 G0 Z L n0 f S J F G y) (B : Built k P sh (siN k P sh) (wdF k P)) (hmd : md ≤ 2) {a : Nat} (hm : a < k) (hi : i < pN P 5 a) (hx : sh (60 * a + i) = some x) (hL : pN P 2 a = L) (hc : c < k) (hA : L + pN P 1 c ≤ n0) (hR : okF (tyF P sh) (rdF md Ff Z)) (hgE : tyG P c (0, 0) (pN P 2 c) (entF P c n0 f)) (n8 : pN P 4 c ≠ 0 → n0 - pN P 1 c - L < 8) (hg0 : (rdF md Ff Z (534 + c)).told = true → pN P 4 c = 0 → tyG P a x (n0 - pN P 1 c) f) (hg1 : (rdF md Ff Z (534 + c)).told = true → pN P 4 c ≠ 0 → tyG P a x (n0 - pN P 1 c + 1) (upF f (n0 - pN P 1 c) (((rdF md Ff Z (534 + c)).f 0).1, -1))) : gi_T l V y_Mo_call b_Mo_call 5 none 4 94 0 0 [.ref M, .int (nI c), .int (nI (60 * a + i))] n y (fun v n' h' => v = none ∧ n' = n ∧ ∃ κ, spP M k P sh md Ff κ h S0 J0 F0 G0 (if (rdF md Ff Z (534 + c)).told = true then comeM md (grF (wdF k P)) (comeM md (grF (wdF k P)) Z (60 * c + 0, pN P 2 c, entF P c n0 f)) (if pN P 4 c = 0 then (60 * a + i, n0 - pN P 1 c, f) else (60 * a + i, n0 - pN P 1 c + 1, upF f (n0 - pN P 1 c) (((rdF md Ff Z (534 + c)).f 0).1, -1))) else (comeM md (grF (wdF k P)) Z (60 * c + 0, pN P 2 c, entF P c n0 f))) h') := by
  refine gi_enter (by decide) (Nat.le_of_ble_eq_true rfl) ?_
  intro _ _ _ _ _ _ _ _ C hr hnm
  have H := HW.1
  obtain ⟨fs, Ha, Hf⟩ := id H.1
  have ho := HW.2.1
  obtain ⟨f1, f2, f3, f4⟩ := HW.fb
  have W := B.wf
  have w8 := W.k8
  have wc := wf_ar W hc
  have q80 : rdQ md ≤ 80 := by unfold rdQ; split <;> omega
  have etx : 72 + c = tix (534 + c) := by unfold tix; rw [if_neg (by omega), if_neg (by omega), if_neg (by omega)]; omega
  have tb := tix_b (show 480 ≤ 534 + c by omega) (show 534 + c < 542 by omega)
  refine gi_aload_n (q := 1) (i := 0) C (dm_Mo_call 0 rfl) rfl rfl rfl ?_
  refine gi_dup (q := 2) C (dm_Mo_call 1 rfl) rfl rfl ?_
  refine gi_get (q := 5) C (dm_Mo_call 2 rfl) rfl fl_Mo_357 Ha (mo_g58 Hf) ?_
  refine gi_aload_n (q := 6) (i := 0) C (dm_Mo_call 3 rfl) rfl rfl rfl ?_
  refine gi_get (q := 9) C (dm_Mo_call 4 rfl) rfl fl_Mo_7 Ha (mo_g1 Hf) ?_
  refine gi_iload_n (q := 10) (i := 1) C (dm_Mo_call 5 rfl) rfl rfl rfl ?_
  refine gi_iald (q := 11) C (dm_Mo_call 6 rfl) rfl rfl (mo_a1 H) (inN (show c < 8 by omega) (by decide)) ?_
  rw [nI_clamp (show c < 2 ^ 31 by omega), HW.2.2.2.1.1 1 (by decide) (by decide), (wf_n W hc).1]
  refine gi_isub (q := 12) C (dm_Mo_call 7 rfl) rfl ?_
  rw [f4, nI_sb (by omega) (by omega), show n0 - L + 6 - pN P 1 c = (n0 - pN P 1 c - L + 6) by omega]
  refine gi_put (q := 15) C (dm_Mo_call 8 rfl) rfl fl_Mo_357 fp_Mo_58 Ha (by rw [Hf.1]; decide) rfl rfl ?_
  refine gi_genM (H.putI Ha Hf (by decide) rfl) (ho.up (by omega) (by omega)) (fun y H ho => ?_)
  obtain ⟨fs, Ha, Hf⟩ := id H.1
  have HW1 := HW.top (n1 := n0 - pN P 1 c) (by omega) (by omega) H ho
  refine gi_aload_n (q := 16) (i := 0) C (dm_Mo_call 9 rfl) rfl rfl rfl ?_
  refine gi_get (q := 19) C (dm_Mo_call 10 rfl) rfl fl_Mo_357 Ha (mo_g58 Hf) ?_
  rw [HW1.fb.2.2.2]
  refine gi_istore_n (q := 20) (i := 3) C (dm_Mo_call 11 rfl) rfl rfl (Nat.le_of_ble_eq_true rfl) ?_
  refine gi_aload_n (q := 21) (i := 0) C (dm_Mo_call 12 rfl) rfl rfl rfl ?_
  refine gi_callv 0 (q := 24) C (dm_Mo_call 13 rfl) rfl my_Mo_keep lk_Mo_448 im_Mo_keep rfl (c_Mo_keep H) Ha rfl rfl ⟨(Nat.le_of_ble_eq_true rfl), (Nat.le_of_ble_eq_true rfl)⟩ (Nat.le_of_ble_eq_true rfl) ⟨(Nat.le_of_ble_eq_true rfl), (Nat.le_of_ble_eq_true rfl)⟩ (fun r21 n21 h21 e21 => ?_)
  obtain ⟨rfl, rfl, S2, F2, G2, H2, o2, r2, s2, k2⟩ := e21
  have HW2 := HW1.kp H2 o2 r2
  have hK : rwR L n0 f (cK F2 G2) := rwR_nr HW.2.2.2.2.2.2.1 f1 f3 k2
  have h66 : S2 66 = nI (n0 - pN P 1 c - L + 6) := s2.trans HW1.fb.2.2.2
  have H := H2
  obtain ⟨fs, Ha, Hf⟩ := id H.1
  have ho := HW2.2.1
  refine gi_iconst (q := 25) (v := 0) C (dm_Mo_call 14 rfl) rfl (by decide) ?_
  refine gi_istore (q := 27) C (dm_Mo_call 15 rfl) rfl (Nat.le_of_ble_eq_true rfl) ?_
  refine gi_while (σ := Nat) (fun j => 6 - j) (fun j => [(4, .int (nI j)), (3, .int (nI (n0 - pN P 1 c - L + 6))), (2, .int (nI (60 * a + i))), (1, .int (nI c)), (0, .ref M)]) (fun _ => n21) (fun _ => 0) (fun _ => 0) (fun j y' => j ≤ 6 ∧ ∃ F3 G3, mo_at M S2 J F3 G3 y' ∧ outM M h y' ∧ frW S2 S2 F2 F3 G2 G3 ∧ lcR (entF P c n0 f) j (cW F3 G3) (pN P 2 c)) 0 ⟨Nat.zero_le _, F2, G2, H2, HW2.2.1, frW.rf, fun q h1 => absurd h1 (Nat.not_lt_zero _)⟩ ?_ (List.forall_mem_cons.mpr ⟨(by first | rfl | (simp [gi_look]; done)), List.forall_mem_cons.mpr ⟨(by first | rfl | (simp [gi_look]; done)), List.forall_mem_cons.mpr ⟨(by first | rfl | (simp [gi_look]; done)), List.forall_mem_cons.mpr ⟨(by first | rfl | (simp [gi_look]; done)), List.forall_mem_cons.mpr ⟨(by first | rfl | (simp [gi_look]; done)), fun _ h => absurd h List.not_mem_nil⟩⟩⟩⟩⟩) rfl rfl rfl
  rintro j y' ⟨hj, F3, G3, H3, o3, r3, l3⟩ ihj
  try dsimp only at *
  have H := H3
  obtain ⟨fs, Ha, Hf⟩ := id H.1
  have ho := o3
  have hP3 : prF P F3 := fun a q1 q2 => by rw [r3.2.1 a (by omega) (by omega) (by omega)]; exact HW2.2.2.2.1.1 a q1 q2
  refine gi_iload (q := 29) C (dm_Mo_call 16 rfl) rfl rfl ?_
  refine gi_bipush (q := 31) (v := 6) C (dm_Mo_call 17 rfl) rfl (by decide) ?_
  refine gi_icmp_ge (q := 34) (tgt := 184) C (dm_Mo_call 18 rfl) rfl (by decide) (fun c31 => ?_) (fun c31 => ?_)
  · have jl : j = 6 := by
      rcases Nat.lt_or_ge j (6) with q | q
      · exact absurd c31 (Int32.not_le.mpr (nI_lt (b := 6) q (by omega)))
      · omega
    subst jl
    refine gi_aload_n (q := 185) (i := 0) C (dm_Mo_call 107 rfl) rfl rfl rfl ?_
    refine gi_bipush (q := 187) (v := 6) C (dm_Mo_call 108 rfl) rfl (by decide) ?_
    refine gi_put (q := 190) C (dm_Mo_call 109 rfl) rfl fl_Mo_357 fp_Mo_58 Ha (by rw [Hf.1]; decide) rfl rfl ?_
    refine gi_genM (H.putI Ha Hf (by decide) rfl) (ho.up (by omega) (by omega)) (fun y H ho => ?_)
    obtain ⟨fs, Ha, Hf⟩ := id H.1
    have wk9 : wkR (pN P 2 c) (pN P 2 c) (entF P c n0 f) (upS S2 58 6) F3 G3 := l3.wk (by omega) wc.2.1 rfl
    have r9 : frW S2 (upS S2 58 6) F2 F3 G2 G3 := ⟨fun a q => by unfold upS; rw [if_neg q], r3.2.1, r3.2.2⟩
    have HW4 := HW2.wl H ho r9 wk9
    refine gi_aload_n (q := 191) (i := 0) C (dm_Mo_call 110 rfl) rfl rfl rfl ?_
    refine gi_bipush (q := 193) (v := 60) C (dm_Mo_call 111 rfl) rfl (by decide) ?_
    refine gi_iload_n (q := 194) (i := 1) C (dm_Mo_call 112 rfl) rfl rfl rfl ?_
    refine gi_imul (q := 195) C (dm_Mo_call 113 rfl) rfl ?_
    rw [show (60 : Int32) = nI 60 from rfl, nI_ml]
    refine gi_callv 1 (q := 198) C (dm_Mo_call 114 rfl) rfl my_Mo_comeTo lk_Mo_434 im_Mo_comeTo rfl (ww_comeTo HW4 (i := 0) B hmd hc (B.first c hc).1 (B.first c hc).2 rfl hgE) Ha rfl rfl ⟨(Nat.le_of_ble_eq_true rfl), (Nat.le_of_ble_eq_true rfl)⟩ (Nat.le_of_ble_eq_true rfl) ⟨(Nat.le_of_ble_eq_true rfl), (Nat.le_of_ble_eq_true rfl)⟩ (fun r195 n195 h195 e195 => ?_)
    obtain ⟨rfl, rfl, S5, J5, F5, G5, HW5, fz5⟩ := e195
    have H := HW5.1
    obtain ⟨fs, Ha, Hf⟩ := id H.1
    have ho := HW5.2.1
    refine gi_aload_n (q := 199) (i := 0) C (dm_Mo_call 115 rfl) rfl rfl rfl ?_
    refine gi_callv 0 (q := 202) C (dm_Mo_call 116 rfl) rfl my_Mo_again lk_Mo_455 im_Mo_again rfl (c_Mo_again H) Ha rfl rfl ⟨(Nat.le_of_ble_eq_true rfl), (Nat.le_of_ble_eq_true rfl)⟩ (Nat.le_of_ble_eq_true rfl) ⟨(Nat.le_of_ble_eq_true rfl), (Nat.le_of_ble_eq_true rfl)⟩ (fun r199 n199 h199 e199 => ?_)
    obtain ⟨rfl, rfl, S7, F7, G7, H7, o7, r7, s7, k7⟩ := e199
    have kS : S5 66 = nI (n0 - pN P 1 c - L + 6) := by
      rw [fz5.1 66 (by decide) (by decide)]
      exact h66
    have kC : cK F5 G5 = cK F2 G2 := (cK_z fz5).trans (cK_w r3)
    have w7 : wkR L (n0 - pN P 1 c) f S7 F7 G7 := by
      refine ⟨s7.trans kS, ?_, f1, by omega, by omega⟩
      refine rwR_nr (c := cK F2 G2) (rw_less hK (by omega)) f1 (by omega) (fun q hq => ?_)
      rw [k7 q hq, kC]
    have HW7 := HW5.wl H7 (HW5.2.1.tr o7) r7 w7
    have H := H7
    obtain ⟨fs, Ha, Hf⟩ := id H.1
    have ho := HW7.2.1
    have rt := md_rdT HW7.2.2.2.2.1 (show 480 ≤ 534 + c by omega) (show 534 + c < 542 by omega)
    rw [rd_ne (by omega)] at rt
    have pr7 := HW7.2.2.2.1.1
    refine gi_aload_n (q := 203) (i := 0) C (dm_Mo_call 117 rfl) rfl rfl rfl ?_
    refine gi_get (q := 206) C (dm_Mo_call 118 rfl) rfl fl_Mo_422 Ha (mo_g49 Hf) ?_
    refine gi_bipush (q := 208) (v := 72) C (dm_Mo_call 119 rfl) rfl (by decide) ?_
    rw [show S7 49 = nI (rdQ md) from HW7.2.2.2.2.1.2.2.1, show (72 : Int32) = nI 72 from rfl]
    refine gi_iadd (q := 209) C (dm_Mo_call 120 rfl) rfl ?_
    rw [nI_add]
    refine gi_iload_n (q := 210) (i := 1) C (dm_Mo_call 121 rfl) rfl rfl rfl ?_
    refine gi_iadd (q := 211) C (dm_Mo_call 122 rfl) rfl ?_
    rw [nI_add, show rdQ md + 72 + c = rdQ md + tix (534 + c) by rw [← etx]; omega]
    refine gi_istore (q := 213) C (dm_Mo_call 123 rfl) rfl (Nat.le_of_ble_eq_true rfl) ?_
    refine gi_aload_n (q := 214) (i := 0) C (dm_Mo_call 124 rfl) rfl rfl rfl ?_
    refine gi_get (q := 217) C (dm_Mo_call 125 rfl) rfl fl_Mo_83 Ha (mo_g39 Hf) ?_
    refine gi_iload (q := 219) C (dm_Mo_call 126 rfl) rfl rfl ?_
    refine gi_zald (q := 220) C (dm_Mo_call 127 rfl) rfl rfl (mo_a39 H) (inN (show rdQ md + tix (534 + c) < 160 by omega) (by decide)) ?_
    rw [nI_clamp (show rdQ md + tix (534 + c) < 2 ^ 31 by omega), rt.1]
    refine gi_if_ne (q := 223) (tgt := 224) C (dm_Mo_call 128 rfl) rfl (by decide) (fun c220 => ?_) (fun c220 => ?_)
    · have tt : (rdF md Ff Z (534 + c)).told = true := bI_t c220
      rw [if_pos tt]
      refine gi_aload_n (q := 225) (i := 0) C (dm_Mo_call 130 rfl) rfl rfl rfl ?_
      refine gi_get (q := 228) C (dm_Mo_call 131 rfl) rfl fl_Mo_19 Ha (mo_g4 Hf) ?_
      refine gi_iload_n (q := 229) (i := 1) C (dm_Mo_call 132 rfl) rfl rfl rfl ?_
      refine gi_iald (q := 230) C (dm_Mo_call 133 rfl) rfl rfl (mo_a4 H) (inN (show c < 8 by omega) (by decide)) ?_
      rw [nI_clamp (show c < 2 ^ 31 by omega), pr7 4 (by decide) (by decide), (wf_n W hc).2.2.1]
      refine gi_iconst (q := 231) (v := 1) C (dm_Mo_call 134 rfl) rfl (by decide) ?_
      refine gi_icmp_ne (q := 234) (tgt := 262) C (dm_Mo_call 135 rfl) rfl (by decide) (fun c231 => ?_) (fun c231 => ?_)
      · refine gi_aload_n (q := 263) (i := 0) C (dm_Mo_call 151 rfl) rfl rfl rfl ?_
        refine gi_get (q := 266) C (dm_Mo_call 152 rfl) rfl fl_Mo_19 Ha (mo_g4 Hf) ?_
        refine gi_iload_n (q := 267) (i := 1) C (dm_Mo_call 153 rfl) rfl rfl rfl ?_
        refine gi_iald (q := 268) C (dm_Mo_call 154 rfl) rfl rfl (mo_a4 H) (inN (show c < 8 by omega) (by decide)) ?_
        rw [nI_clamp (show c < 2 ^ 31 by omega), pr7 4 (by decide) (by decide), (wf_n W hc).2.2.1]
        refine gi_iconst (q := 269) (v := 2) C (dm_Mo_call 155 rfl) rfl (by decide) ?_
        refine gi_icmp_ne (q := 272) (tgt := 290) C (dm_Mo_call 156 rfl) rfl (by decide) (fun c269 => ?_) (fun c269 => ?_)
        · have r0' : pN P 4 c = 0 := by
            have q1 := c231
            have q2 := c269
            rw [show (1 : Int32) = nI 1 from rfl, nI_eqP (by omega) (by decide)] at q1
            rw [show (2 : Int32) = nI 2 from rfl, nI_eqP (by omega) (by decide)] at q2
            have := wc.2.2.2.1
            omega
          have hg := hg0 tt r0'
          rw [if_pos r0']
          have HW8 := HW7
          refine gi_aload_n (q := 291) (i := 0) C (dm_Mo_call 167 rfl) rfl rfl rfl ?_
          refine gi_iload_n (q := 292) (i := 2) C (dm_Mo_call 168 rfl) rfl rfl rfl ?_
          refine gi_callv 1 (q := 295) C (dm_Mo_call 169 rfl) rfl my_Mo_comeTo lk_Mo_434 im_Mo_comeTo rfl (ww_comeTo HW8 B hmd hm hi hx hL hg) Ha rfl rfl ⟨(Nat.le_of_ble_eq_true rfl), (Nat.le_of_ble_eq_true rfl)⟩ (Nat.le_of_ble_eq_true rfl) ⟨(Nat.le_of_ble_eq_true rfl), (Nat.le_of_ble_eq_true rfl)⟩ (fun r292 n292 h292 e292 => ?_)
          obtain ⟨rfl, rfl, S9, J9, F9, G9, HW9, fz9⟩ := e292
          have H := HW9.1
          obtain ⟨fs, Ha, Hf⟩ := id H.1
          have ho := HW9.2.1
          refine gi_vret C hr (dm_Mo_call 170 rfl) ?_
          exact ⟨rfl, rfl, _, HW9.end⟩
        · have r2' : pN P 4 c = 2 := by
            have q := c269
            rw [show (2 : Int32) = nI 2 from rfl, nI_eqP (by omega) (by decide)] at q
            exact q
          obtain ⟨un, uo, ua⟩ := tld_res hR (show c < 8 by omega) tt (by omega)
          have ur := rt.2 tt
          unfold tvA at ur
          rw [if_neg (by omega)] at ur
          obtain ⟨b, q, eX⟩ : ∃ b q, ((rdF md Ff Z (534 + c)).f 0).1 = .inr (b, q) := ⟨_, _, ar_t (by rw [ua, r2']; rfl)⟩
          rw [eX] at ur
          have s43 : F7 43 (rdQ md + tix (534 + c)) = b := ur.1
          have s44 : F7 44 (rdQ md + tix (534 + c)) = bI q := ur.2
          have hg := hg1 tt (by omega)
          rw [if_neg (show ¬ pN P 4 c = 0 by omega)]
          rw [eX] at hg ⊢
          refine gi_aload_n (q := 273) (i := 0) C (dm_Mo_call 157 rfl) rfl rfl rfl ?_
          refine gi_aload_n (q := 274) (i := 0) C (dm_Mo_call 158 rfl) rfl rfl rfl ?_
          refine gi_get (q := 277) C (dm_Mo_call 159 rfl) rfl fl_Mo_95 Ha (mo_g43 Hf) ?_
          refine gi_iload (q := 279) C (dm_Mo_call 160 rfl) rfl rfl ?_
          refine gi_iald (q := 280) C (dm_Mo_call 161 rfl) rfl rfl (mo_a43 H) (inN (show rdQ md + tix (534 + c) < 160 by omega) (by decide)) ?_
          rw [nI_clamp (show rdQ md + tix (534 + c) < 2 ^ 31 by omega), s43]
          refine gi_aload_n (q := 281) (i := 0) C (dm_Mo_call 162 rfl) rfl rfl rfl ?_
          refine gi_get (q := 284) C (dm_Mo_call 163 rfl) rfl fl_Mo_98 Ha (mo_g44 Hf) ?_
          refine gi_iload (q := 286) C (dm_Mo_call 164 rfl) rfl rfl ?_
          refine gi_zald (q := 287) C (dm_Mo_call 165 rfl) rfl rfl (mo_a44 H) (inN (show rdQ md + tix (534 + c) < 160 by omega) (by decide)) ?_
          rw [nI_clamp (show rdQ md + tix (534 + c) < 2 ^ 31 by omega), s44]
          refine gi_callv 2 (q := 290) C (dm_Mo_call 166 rfl) rfl my_Mo_pushSet lk_Mo_441 im_Mo_pushSet rfl (ww_pushSet HW7 b q (by omega)) Ha rfl rfl ⟨(Nat.le_of_ble_eq_true rfl), (Nat.le_of_ble_eq_true rfl)⟩ (Nat.le_of_ble_eq_true rfl) ⟨(Nat.le_of_ble_eq_true rfl), (Nat.le_of_ble_eq_true rfl)⟩ (fun r287 n287 h287 e287 => ?_)
          obtain ⟨rfl, rfl, S8, J8, F8, G8, HW8⟩ := e287
          have H := HW8.1
          obtain ⟨fs, Ha, Hf⟩ := id H.1
          have ho := HW8.2.1
          refine gi_aload_n (q := 291) (i := 0) C (dm_Mo_call 167 rfl) rfl rfl rfl ?_
          refine gi_iload_n (q := 292) (i := 2) C (dm_Mo_call 168 rfl) rfl rfl rfl ?_
          refine gi_callv 1 (q := 295) C (dm_Mo_call 169 rfl) rfl my_Mo_comeTo lk_Mo_434 im_Mo_comeTo rfl (ww_comeTo HW8 B hmd hm hi hx hL hg) Ha rfl rfl ⟨(Nat.le_of_ble_eq_true rfl), (Nat.le_of_ble_eq_true rfl)⟩ (Nat.le_of_ble_eq_true rfl) ⟨(Nat.le_of_ble_eq_true rfl), (Nat.le_of_ble_eq_true rfl)⟩ (fun r292 n292 h292 e292 => ?_)
          obtain ⟨rfl, rfl, S9, J9, F9, G9, HW9, fz9⟩ := e292
          have H := HW9.1
          obtain ⟨fs, Ha, Hf⟩ := id H.1
          have ho := HW9.2.1
          refine gi_vret C hr (dm_Mo_call 170 rfl) ?_
          exact ⟨rfl, rfl, _, HW9.end⟩
      · have r1' : pN P 4 c = 1 := by
          have q := c231
          rw [show (1 : Int32) = nI 1 from rfl, nI_eqP (by omega) (by decide)] at q
          exact q
        obtain ⟨un, uo, ua⟩ := tld_res hR (show c < 8 by omega) tt (by omega)
        have ur := rt.2 tt
        unfold tvA at ur
        rw [if_neg (by omega)] at ur
        obtain ⟨X, eX⟩ : ∃ X, ((rdF md Ff Z (534 + c)).f 0).1 = .inl X := ⟨_, ar_s (by rw [ua, r1']; rfl)⟩
        rw [eX] at ur
        have s40 : G7 40 (rdQ md + tix (534 + c)) = eL X.1 := ur.1
        have s41 : G7 41 (rdQ md + tix (534 + c)) = eL X.2.1 := ur.2.1
        have s42 : G7 42 (rdQ md + tix (534 + c)) = eL X.2.2 := ur.2.2
        have hg := hg1 tt (by omega)
        rw [if_neg (show ¬ pN P 4 c = 0 by omega)]
        rw [eX] at hg ⊢
        refine gi_aload_n (q := 235) (i := 0) C (dm_Mo_call 136 rfl) rfl rfl rfl ?_
        refine gi_aload_n (q := 236) (i := 0) C (dm_Mo_call 137 rfl) rfl rfl rfl ?_
        refine gi_get (q := 239) C (dm_Mo_call 138 rfl) rfl fl_Mo_86 Ha (mo_g40 Hf) ?_
        refine gi_iload (q := 241) C (dm_Mo_call 139 rfl) rfl rfl ?_
        refine gi_lald (q := 242) C (dm_Mo_call 140 rfl) rfl rfl (mo_a40 H) (inN (show rdQ md + tix (534 + c) < 160 by omega) (by decide)) ?_
        rw [nI_clamp (show rdQ md + tix (534 + c) < 2 ^ 31 by omega), s40]
        refine gi_aload_n (q := 243) (i := 0) C (dm_Mo_call 141 rfl) rfl rfl rfl ?_
        refine gi_get (q := 246) C (dm_Mo_call 142 rfl) rfl fl_Mo_89 Ha (mo_g41 Hf) ?_
        refine gi_iload (q := 248) C (dm_Mo_call 143 rfl) rfl rfl ?_
        refine gi_lald (q := 249) C (dm_Mo_call 144 rfl) rfl rfl (mo_a41 H) (inN (show rdQ md + tix (534 + c) < 160 by omega) (by decide)) ?_
        rw [nI_clamp (show rdQ md + tix (534 + c) < 2 ^ 31 by omega), s41]
        refine gi_aload_n (q := 250) (i := 0) C (dm_Mo_call 145 rfl) rfl rfl rfl ?_
        refine gi_get (q := 253) C (dm_Mo_call 146 rfl) rfl fl_Mo_92 Ha (mo_g42 Hf) ?_
        refine gi_iload (q := 255) C (dm_Mo_call 147 rfl) rfl rfl ?_
        refine gi_lald (q := 256) C (dm_Mo_call 148 rfl) rfl rfl (mo_a42 H) (inN (show rdQ md + tix (534 + c) < 160 by omega) (by decide)) ?_
        rw [nI_clamp (show rdQ md + tix (534 + c) < 2 ^ 31 by omega), s42]
        refine gi_callv 3 (q := 259) C (dm_Mo_call 149 rfl) rfl my_Mo_pushSpan lk_Mo_431 im_Mo_pushSpan rfl (ww_pushSpan HW7 X (by omega)) Ha rfl rfl ⟨(Nat.le_of_ble_eq_true rfl), (Nat.le_of_ble_eq_true rfl)⟩ (Nat.le_of_ble_eq_true rfl) ⟨(Nat.le_of_ble_eq_true rfl), (Nat.le_of_ble_eq_true rfl)⟩ (fun r256 n256 h256 e256 => ?_)
        obtain ⟨rfl, rfl, S8, J8, F8, G8, HW8⟩ := e256
        have H := HW8.1
        obtain ⟨fs, Ha, Hf⟩ := id H.1
        have ho := HW8.2.1
        refine gi_goto (tgt := 290) C (dm_Mo_call 150 rfl) (by decide) ?_
        refine gi_aload_n (q := 291) (i := 0) C (dm_Mo_call 167 rfl) rfl rfl rfl ?_
        refine gi_iload_n (q := 292) (i := 2) C (dm_Mo_call 168 rfl) rfl rfl rfl ?_
        refine gi_callv 1 (q := 295) C (dm_Mo_call 169 rfl) rfl my_Mo_comeTo lk_Mo_434 im_Mo_comeTo rfl (ww_comeTo HW8 B hmd hm hi hx hL hg) Ha rfl rfl ⟨(Nat.le_of_ble_eq_true rfl), (Nat.le_of_ble_eq_true rfl)⟩ (Nat.le_of_ble_eq_true rfl) ⟨(Nat.le_of_ble_eq_true rfl), (Nat.le_of_ble_eq_true rfl)⟩ (fun r292 n292 h292 e292 => ?_)
        obtain ⟨rfl, rfl, S9, J9, F9, G9, HW9, fz9⟩ := e292
        have H := HW9.1
        obtain ⟨fs, Ha, Hf⟩ := id H.1
        have ho := HW9.2.1
        refine gi_vret C hr (dm_Mo_call 170 rfl) ?_
        exact ⟨rfl, rfl, _, HW9.end⟩
    · refine gi_vret C hr (dm_Mo_call 129 rfl) ?_
      rw [if_neg (by rw [bI_fa c220]; decide)]
      exact ⟨rfl, rfl, _, HW7.end⟩
  · have jl : j < 6 := by
      rcases Nat.lt_or_ge j (6) with q | q
      · exact q
      · exact absurd (nI_le (a := 6) q (by omega)) c31
    refine gi_meet (σ := (Nat → Nat → Int32) × (Nat → Nat → Int64)) 170 (fun _ => [(4, .int (nI j)), (3, .int (nI (n0 - pN P 1 c - L + 6))), (2, .int (nI (60 * a + i))), (1, .int (nI c)), (0, .ref M)]) (fun _ => []) (fun q y => mo_at M S2 J q.1 q.2 y ∧ outM M h y ∧ frW S2 S2 F2 q.1 G2 q.2 ∧ ∃ d : Ce, cW q.1 q.2 = upO (cW F3 G3) j d ∧ (j < pN P 2 c → ceA (entF P c n0 f j).1 d)) ?_ (fun hJ => ?_)
    · rintro ⟨F4, G4⟩ y hI
      try dsimp only at hI
      obtain ⟨H4, o4, r4, d, cd, ad⟩ := hI
      have H := H4
      obtain ⟨fs, Ha, Hf⟩ := id H.1
      have ho := o4
      refine gi_aload_n (q := 171) (i := 0) C (dm_Mo_call 100 rfl) rfl rfl rfl ?_
      refine gi_get (q := 174) C (dm_Mo_call 101 rfl) rfl fl_Mo_119 Ha (mo_g57 Hf) ?_
      refine gi_iload (q := 176) C (dm_Mo_call 102 rfl) rfl rfl ?_
      refine gi_iconst (q := 177) (v := -1) C (dm_Mo_call 103 rfl) rfl (by decide) ?_
      refine gi_iast (q := 178) C (dm_Mo_call 104 rfl) rfl rfl (mo_a57 H) (inN (show j < 14 by omega) (by decide)) ?_
      refine gi_genM (H.setI (p := 33) (k := 57) (by decide) rfl rfl (by decide) rfl (by omega)) (ho.up (by omega) (by omega)) (fun y H ho => ?_)
      obtain ⟨fs, Ha, Hf⟩ := id H.1
      rw [nI_clamp (show j < 2 ^ 31 by omega)] at H
      have ck2 := cW_mk (F := F4) (G := G4) (s := j) (v := -1)
      obtain ⟨F5, eF5⟩ : ∃ F5, F5 = upA F4 57 (upd (F4 57) j (-1)) := ⟨_, rfl⟩
      rw [← eF5] at H ck2
      have rk : frW S2 S2 F4 F5 G4 G4 := ⟨fun _ _ => rfl, fun a _ _ h3 => by rw [eF5, upA_n h3], fun _ _ _ _ => rfl⟩
      have dj : cW F4 G4 j = d := by rw [cd, upO_self]
      have ck : lcR (entF P c n0 f) (j + 1) (cW F5 G4) (pN P 2 c) := by
        refine l3.up (d := (d.1, d.2.1, d.2.2.1, d.2.2.2.1, d.2.2.2.2.1, -1)) ?_ (fun q9 => ce_mk (ad q9))
        rw [ck2, dj]
        funext q
        unfold upO
        by_cases z : q = j
        · rw [if_pos z, if_pos z]
        · rw [if_neg z, if_neg z, cd, upO_ne z]
      refine gi_iinc (q := 181) (v := 1) C (dm_Mo_call 105 rfl) rfl rfl (by decide) (Nat.le_of_ble_eq_true rfl) ?_
      refine gi_goto (tgt := 27) C (dm_Mo_call 106 rfl) (by decide) ?_
      refine gi_close (ihj (j + 1) _ ⟨jl, F5, G4, H, ho, r4.tr rk, ck⟩ (by omega)) (List.forall_mem_cons.mpr ⟨(by first | rfl | (simp [gi_look, nI_1]; done)), List.forall_mem_cons.mpr ⟨(by first | rfl | (simp [gi_look, nI_1]; done)), List.forall_mem_cons.mpr ⟨(by first | rfl | (simp [gi_look, nI_1]; done)), List.forall_mem_cons.mpr ⟨(by first | rfl | (simp [gi_look, nI_1]; done)), List.forall_mem_cons.mpr ⟨(by first | rfl | (simp [gi_look, nI_1]; done)), fun _ h => absurd h List.not_mem_nil⟩⟩⟩⟩⟩) rfl rfl rfl
    · refine gi_iload (q := 36) C (dm_Mo_call 19 rfl) rfl rfl ?_
      refine gi_aload_n (q := 37) (i := 0) C (dm_Mo_call 20 rfl) rfl rfl rfl ?_
      refine gi_get (q := 40) C (dm_Mo_call 21 rfl) rfl fl_Mo_7 Ha (mo_g1 Hf) ?_
      refine gi_iload_n (q := 41) (i := 1) C (dm_Mo_call 22 rfl) rfl rfl rfl ?_
      refine gi_iald (q := 42) C (dm_Mo_call 23 rfl) rfl rfl (mo_a1 H) (inN (show c < 8 by omega) (by decide)) ?_
      rw [nI_clamp (show c < 2 ^ 31 by omega), hP3 1 (by decide) (by decide), (wf_n W hc).1]
      refine gi_icmp_ge (q := 45) (tgt := 128) C (dm_Mo_call 24 rfl) rfl (by decide) (fun c42 => ?_) (fun c42 => ?_)
      · have j1 : ¬ j < pN P 1 c := by
          have q := c42
          rw [nI_leP (by omega) (by omega)] at q
          omega
        
        refine gi_iload (q := 130) C (dm_Mo_call 76 rfl) rfl rfl ?_
        refine gi_aload_n (q := 131) (i := 0) C (dm_Mo_call 77 rfl) rfl rfl rfl ?_
        refine gi_get (q := 134) C (dm_Mo_call 78 rfl) rfl fl_Mo_13 Ha (mo_g2 Hf) ?_
        refine gi_iload_n (q := 135) (i := 1) C (dm_Mo_call 79 rfl) rfl rfl rfl ?_
        refine gi_iald (q := 136) C (dm_Mo_call 80 rfl) rfl rfl (mo_a2 H) (inN (show c < 8 by omega) (by decide)) ?_
        rw [nI_clamp (show c < 2 ^ 31 by omega), hP3 2 (by decide) (by decide), (wf_n W hc).2.1]
        refine gi_icmp_ge (q := 139) (tgt := 161) C (dm_Mo_call 81 rfl) rfl (by decide) (fun c136 => ?_) (fun c136 => ?_)
        · refine gi_aload_n (q := 162) (i := 0) C (dm_Mo_call 94 rfl) rfl rfl rfl ?_
          refine gi_iload (q := 164) C (dm_Mo_call 95 rfl) rfl rfl ?_
          refine gi_lconst (q := 165) (v := 0) C (dm_Mo_call 96 rfl) rfl (by decide) ?_
          refine gi_lconst (q := 166) (v := 0) C (dm_Mo_call 97 rfl) rfl (by decide) ?_
          refine gi_lconst (q := 167) (v := 0) C (dm_Mo_call 98 rfl) rfl (by decide) ?_
          refine gi_callv 4 (q := 170) C (dm_Mo_call 99 rfl) rfl my_Mo_span lk_Mo_366 im_Mo_span rfl (c_Mo_span (show j < 14 by omega) 0 0 0 H) Ha rfl rfl ⟨(Nat.le_of_ble_eq_true rfl), (Nat.le_of_ble_eq_true rfl)⟩ (Nat.le_of_ble_eq_true rfl) ⟨(Nat.le_of_ble_eq_true rfl), (Nat.le_of_ble_eq_true rfl)⟩ (fun r167 n167 h167 e167 => ?_)
          obtain ⟨rfl, rfl, F6, G6, H6, o6, r6, c6⟩ := e167
          refine gi_close (hJ (F6, G6) _ ⟨H6, ho.tr o6, r3.tr r6, _, c6, fun q9 => ?_⟩) (List.forall_mem_cons.mpr ⟨rfl, List.forall_mem_cons.mpr ⟨rfl, List.forall_mem_cons.mpr ⟨rfl, List.forall_mem_cons.mpr ⟨rfl, List.forall_mem_cons.mpr ⟨rfl, fun _ h => absurd h List.not_mem_nil⟩⟩⟩⟩⟩) rfl rfl rfl
          show ceA (if j < pN P 1 c then _ else _ : Sl).1 _
          rw [if_neg j1]
          rw [if_neg (fun kd => ?_)]
          · exact ⟨rfl, rfl, rfl⟩
          · first
              | (have q := c136; rw [nI_leP (by omega) (by omega)] at q; omega)
              | exact c147 (by rw [kd]; rfl)
        · refine gi_aload_n (q := 140) (i := 0) C (dm_Mo_call 82 rfl) rfl rfl rfl ?_
          refine gi_iload_n (q := 141) (i := 1) C (dm_Mo_call 83 rfl) rfl rfl rfl ?_
          refine gi_iload (q := 143) C (dm_Mo_call 84 rfl) rfl rfl ?_
          refine gi_callv 2 (q := 146) C (dm_Mo_call 85 rfl) rfl my_Mo_kindOf lk_Mo_207 im_Mo_kindOf rfl (c_Mo_kindOf W hc (show j < 8 by omega) hP3 H) Ha rfl rfl ⟨(Nat.le_of_ble_eq_true rfl), (Nat.le_of_ble_eq_true rfl)⟩ (Nat.le_of_ble_eq_true rfl) ⟨(Nat.le_of_ble_eq_true rfl), (Nat.le_of_ble_eq_true rfl)⟩ (fun r143 n143 h143 e143 => ?_)
          obtain ⟨rfl, q143, u143⟩ := e143
          rw [q143, u143]
          refine gi_iconst (q := 147) (v := 1) C (dm_Mo_call 86 rfl) rfl (by decide) ?_
          refine gi_icmp_ne (q := 150) (tgt := 161) C (dm_Mo_call 87 rfl) rfl (by decide) (fun c147 => ?_) (fun c147 => ?_)
          · refine gi_aload_n (q := 162) (i := 0) C (dm_Mo_call 94 rfl) rfl rfl rfl ?_
            refine gi_iload (q := 164) C (dm_Mo_call 95 rfl) rfl rfl ?_
            refine gi_lconst (q := 165) (v := 0) C (dm_Mo_call 96 rfl) rfl (by decide) ?_
            refine gi_lconst (q := 166) (v := 0) C (dm_Mo_call 97 rfl) rfl (by decide) ?_
            refine gi_lconst (q := 167) (v := 0) C (dm_Mo_call 98 rfl) rfl (by decide) ?_
            refine gi_callv 4 (q := 170) C (dm_Mo_call 99 rfl) rfl my_Mo_span lk_Mo_366 im_Mo_span rfl (c_Mo_span (show j < 14 by omega) 0 0 0 H) Ha rfl rfl ⟨(Nat.le_of_ble_eq_true rfl), (Nat.le_of_ble_eq_true rfl)⟩ (Nat.le_of_ble_eq_true rfl) ⟨(Nat.le_of_ble_eq_true rfl), (Nat.le_of_ble_eq_true rfl)⟩ (fun r167 n167 h167 e167 => ?_)
            obtain ⟨rfl, rfl, F6, G6, H6, o6, r6, c6⟩ := e167
            refine gi_close (hJ (F6, G6) _ ⟨H6, ho.tr o6, r3.tr r6, _, c6, fun q9 => ?_⟩) (List.forall_mem_cons.mpr ⟨rfl, List.forall_mem_cons.mpr ⟨rfl, List.forall_mem_cons.mpr ⟨rfl, List.forall_mem_cons.mpr ⟨rfl, List.forall_mem_cons.mpr ⟨rfl, fun _ h => absurd h List.not_mem_nil⟩⟩⟩⟩⟩) rfl rfl rfl
            show ceA (if j < pN P 1 c then _ else _ : Sl).1 _
            rw [if_neg j1]
            rw [if_neg (fun kd => ?_)]
            · exact ⟨rfl, rfl, rfl⟩
            · first
                | (have q := c136; rw [nI_leP (by omega) (by omega)] at q; omega)
                | exact c147 (by rw [kd]; rfl)
          · refine gi_aload_n (q := 151) (i := 0) C (dm_Mo_call 88 rfl) rfl rfl rfl ?_
            refine gi_iload (q := 153) C (dm_Mo_call 89 rfl) rfl rfl ?_
            refine gi_iconst (q := 154) (v := 0) C (dm_Mo_call 90 rfl) rfl (by decide) ?_
            refine gi_iconst (q := 155) (v := 1) C (dm_Mo_call 91 rfl) rfl (by decide) ?_
            refine gi_callv 3 (q := 158) C (dm_Mo_call 92 rfl) rfl my_Mo_setOf lk_Mo_370 im_Mo_setOf rfl (c_Mo_setOf (show j < 14 by omega) 0 true H) Ha rfl rfl ⟨(Nat.le_of_ble_eq_true rfl), (Nat.le_of_ble_eq_true rfl)⟩ (Nat.le_of_ble_eq_true rfl) ⟨(Nat.le_of_ble_eq_true rfl), (Nat.le_of_ble_eq_true rfl)⟩ (fun r155 n155 h155 e155 => ?_)
            obtain ⟨rfl, rfl, F6, G6, H6, o6, r6, c6⟩ := e155
            refine gi_goto (tgt := 170) C (dm_Mo_call 93 rfl) (by decide) ?_
            have kd : kdB P c j = true := by
              cases e9 : kdB P c j with
              | true => rfl
              | false => rw [e9] at c147; exact absurd c147 (by decide)
            refine gi_close (hJ (F6, G6) _ ⟨H6, ho.tr o6, r3.tr r6, _, c6, fun q9 => ?_⟩) (List.forall_mem_cons.mpr ⟨rfl, List.forall_mem_cons.mpr ⟨rfl, List.forall_mem_cons.mpr ⟨rfl, List.forall_mem_cons.mpr ⟨rfl, List.forall_mem_cons.mpr ⟨rfl, fun _ h => absurd h List.not_mem_nil⟩⟩⟩⟩⟩) rfl rfl rfl
            show ceA (if j < pN P 1 c then _ else _ : Sl).1 _
            rw [if_neg j1]
            rw [if_pos kd]
            exact ⟨rfl, rfl⟩
      · have j1 : j < pN P 1 c := by
          have q := c42
          rw [nI_leP (by omega) (by omega)] at q
          omega
        
        refine gi_aload_n (q := 46) (i := 0) C (dm_Mo_call 25 rfl) rfl rfl rfl ?_
        refine gi_get (q := 49) C (dm_Mo_call 26 rfl) rfl fl_Mo_104 Ha (mo_g52 Hf) ?_
        refine gi_iload (q := 51) C (dm_Mo_call 27 rfl) rfl rfl ?_
        refine gi_aload_n (q := 52) (i := 0) C (dm_Mo_call 28 rfl) rfl rfl rfl ?_
        refine gi_get (q := 55) C (dm_Mo_call 29 rfl) rfl fl_Mo_122 Ha (mo_g60 Hf) ?_
        refine gi_iload_n (q := 56) (i := 3) C (dm_Mo_call 30 rfl) rfl rfl rfl ?_
        refine gi_iload (q := 58) C (dm_Mo_call 31 rfl) rfl rfl ?_
        refine gi_iadd (q := 59) C (dm_Mo_call 32 rfl) rfl ?_
        rw [nI_add]
        refine gi_lald (q := 60) C (dm_Mo_call 33 rfl) rfl rfl (mo_a60 H) (inN (show (n0 - pN P 1 c - L + 6) + j < 14 by omega) (by decide)) ?_
        refine gi_last (q := 61) C (dm_Mo_call 34 rfl) rfl rfl (mo_a52 H) (inN (show j < 14 by omega) (by decide)) ?_
        refine gi_genM (H.setJ (p := 28) (k := 52) (by decide) rfl rfl rfl (by omega)) (ho.up (by omega) (by omega)) (fun y H ho => ?_)
        obtain ⟨fs, Ha, Hf⟩ := id H.1
        refine gi_aload_n (q := 62) (i := 0) C (dm_Mo_call 35 rfl) rfl rfl rfl ?_
        refine gi_get (q := 65) C (dm_Mo_call 36 rfl) rfl fl_Mo_107 Ha (mo_g53 Hf) ?_
        refine gi_iload (q := 67) C (dm_Mo_call 37 rfl) rfl rfl ?_
        refine gi_aload_n (q := 68) (i := 0) C (dm_Mo_call 38 rfl) rfl rfl rfl ?_
        refine gi_get (q := 71) C (dm_Mo_call 39 rfl) rfl fl_Mo_125 Ha (mo_g61 Hf) ?_
        refine gi_iload_n (q := 72) (i := 3) C (dm_Mo_call 40 rfl) rfl rfl rfl ?_
        refine gi_iload (q := 74) C (dm_Mo_call 41 rfl) rfl rfl ?_
        refine gi_iadd (q := 75) C (dm_Mo_call 42 rfl) rfl ?_
        rw [nI_add]
        refine gi_lald (q := 76) C (dm_Mo_call 43 rfl) rfl rfl (mo_a61 H) (inN (show (n0 - pN P 1 c - L + 6) + j < 14 by omega) (by decide)) ?_
        refine gi_last (q := 77) C (dm_Mo_call 44 rfl) rfl rfl (mo_a53 H) (inN (show j < 14 by omega) (by decide)) ?_
        refine gi_genM (H.setJ (p := 29) (k := 53) (by decide) rfl rfl rfl (by omega)) (ho.up (by omega) (by omega)) (fun y H ho => ?_)
        obtain ⟨fs, Ha, Hf⟩ := id H.1
        refine gi_aload_n (q := 78) (i := 0) C (dm_Mo_call 45 rfl) rfl rfl rfl ?_
        refine gi_get (q := 81) C (dm_Mo_call 46 rfl) rfl fl_Mo_110 Ha (mo_g54 Hf) ?_
        refine gi_iload (q := 83) C (dm_Mo_call 47 rfl) rfl rfl ?_
        refine gi_aload_n (q := 84) (i := 0) C (dm_Mo_call 48 rfl) rfl rfl rfl ?_
        refine gi_get (q := 87) C (dm_Mo_call 49 rfl) rfl fl_Mo_128 Ha (mo_g62 Hf) ?_
        refine gi_iload_n (q := 88) (i := 3) C (dm_Mo_call 50 rfl) rfl rfl rfl ?_
        refine gi_iload (q := 90) C (dm_Mo_call 51 rfl) rfl rfl ?_
        refine gi_iadd (q := 91) C (dm_Mo_call 52 rfl) rfl ?_
        rw [nI_add]
        refine gi_lald (q := 92) C (dm_Mo_call 53 rfl) rfl rfl (mo_a62 H) (inN (show (n0 - pN P 1 c - L + 6) + j < 14 by omega) (by decide)) ?_
        refine gi_last (q := 93) C (dm_Mo_call 54 rfl) rfl rfl (mo_a54 H) (inN (show j < 14 by omega) (by decide)) ?_
        refine gi_genM (H.setJ (p := 30) (k := 54) (by decide) rfl rfl rfl (by omega)) (ho.up (by omega) (by omega)) (fun y H ho => ?_)
        obtain ⟨fs, Ha, Hf⟩ := id H.1
        refine gi_aload_n (q := 94) (i := 0) C (dm_Mo_call 55 rfl) rfl rfl rfl ?_
        refine gi_get (q := 97) C (dm_Mo_call 56 rfl) rfl fl_Mo_113 Ha (mo_g55 Hf) ?_
        refine gi_iload (q := 99) C (dm_Mo_call 57 rfl) rfl rfl ?_
        refine gi_aload_n (q := 100) (i := 0) C (dm_Mo_call 58 rfl) rfl rfl rfl ?_
        refine gi_get (q := 103) C (dm_Mo_call 59 rfl) rfl fl_Mo_131 Ha (mo_g63 Hf) ?_
        refine gi_iload_n (q := 104) (i := 3) C (dm_Mo_call 60 rfl) rfl rfl rfl ?_
        refine gi_iload (q := 106) C (dm_Mo_call 61 rfl) rfl rfl ?_
        refine gi_iadd (q := 107) C (dm_Mo_call 62 rfl) rfl ?_
        rw [nI_add]
        refine gi_iald (q := 108) C (dm_Mo_call 63 rfl) rfl rfl (mo_a63 H) (inN (show (n0 - pN P 1 c - L + 6) + j < 14 by omega) (by decide)) ?_
        refine gi_iast (q := 109) C (dm_Mo_call 64 rfl) rfl rfl (mo_a55 H) (inN (show j < 14 by omega) (by decide)) ?_
        refine gi_genM (H.setI (p := 31) (k := 55) (by decide) rfl rfl (by decide) rfl (by omega)) (ho.up (by omega) (by omega)) (fun y H ho => ?_)
        obtain ⟨fs, Ha, Hf⟩ := id H.1
        refine gi_aload_n (q := 110) (i := 0) C (dm_Mo_call 65 rfl) rfl rfl rfl ?_
        refine gi_get (q := 113) C (dm_Mo_call 66 rfl) rfl fl_Mo_116 Ha (mo_g56 Hf) ?_
        refine gi_iload (q := 115) C (dm_Mo_call 67 rfl) rfl rfl ?_
        refine gi_aload_n (q := 116) (i := 0) C (dm_Mo_call 68 rfl) rfl rfl rfl ?_
        refine gi_get (q := 119) C (dm_Mo_call 69 rfl) rfl fl_Mo_134 Ha (mo_g64 Hf) ?_
        refine gi_iload_n (q := 120) (i := 3) C (dm_Mo_call 70 rfl) rfl rfl rfl ?_
        refine gi_iload (q := 122) C (dm_Mo_call 71 rfl) rfl rfl ?_
        refine gi_iadd (q := 123) C (dm_Mo_call 72 rfl) rfl ?_
        rw [nI_add]
        refine gi_zald (q := 124) C (dm_Mo_call 73 rfl) rfl rfl (mo_a64 H) (inN (show (n0 - pN P 1 c - L + 6) + j < 14 by omega) (by decide)) ?_
        refine gi_zast (q := 125) C (dm_Mo_call 74 rfl) rfl rfl (mo_a56 H) (inN (show j < 14 by omega) (by decide)) ?_
        refine gi_genM (H.setI (p := 32) (k := 56) (by decide) rfl rfl (by decide) rfl (by omega)) (ho.up (by omega) (by omega)) (fun y H ho => ?_)
        obtain ⟨fs, Ha, Hf⟩ := id H.1
        refine gi_goto (tgt := 170) C (dm_Mo_call 75 rfl) (by decide) ?_
        rw [nI_clamp (show j < 2 ^ 31 by omega), nI_clamp (show (n0 - pN P 1 c - L + 6) + j < 2 ^ 31 by omega)] at H
        have e60 := congrFun (r3.2.2 60 (by decide) (by decide) (by decide)) ((n0 - pN P 1 c - L + 6) + j)
        have e61 := congrFun (r3.2.2 61 (by decide) (by decide) (by decide)) ((n0 - pN P 1 c - L + 6) + j)
        have e62 := congrFun (r3.2.2 62 (by decide) (by decide) (by decide)) ((n0 - pN P 1 c - L + 6) + j)
        have e63 := congrFun (r3.2.1 63 (by decide) (by decide) (by decide)) ((n0 - pN P 1 c - L + 6) + j)
        have e64 := congrFun (r3.2.1 64 (by decide) (by decide) (by decide)) ((n0 - pN P 1 c - L + 6) + j)
        have key : ∃ F6 G6, mo_at M S2 J F6 G6 y ∧ frW S2 S2 F3 F6 G3 G6 ∧ cW F6 G6 = upO (cW F3 G3) j ((nrC (cK F2 G2 ((n0 - pN P 1 c - L + 6) + j))).1, (nrC (cK F2 G2 ((n0 - pN P 1 c - L + 6) + j))).2.1, (nrC (cK F2 G2 ((n0 - pN P 1 c - L + 6) + j))).2.2.1, (nrC (cK F2 G2 ((n0 - pN P 1 c - L + 6) + j))).2.2.2.1, (nrC (cK F2 G2 ((n0 - pN P 1 c - L + 6) + j))).2.2.2.2.1, F3 57 j) := by
          refine ⟨_, _, H, ⟨fun _ _ => rfl, fun a h1 h2 h3 => by simp [upA, h1, h2, h3], fun a h1 h2 h3 => by simp [upA, h1, h2, h3]⟩, ?_⟩
          funext q
          by_cases z : q = j
          · subst z
            simp [cW, cK, nrC, upA, upd_is, updJ_is, upO, e60, e61, e62, e63, e64]
          · simp [cW, upA, upd_is, updJ_is, upO, z]
        obtain ⟨F6, G6, H6, r6, c6⟩ := key
        refine gi_close (hJ (F6, G6) _ ⟨H6, ho, r3.tr r6, _, c6, fun q9 => ?_⟩) (List.forall_mem_cons.mpr ⟨rfl, List.forall_mem_cons.mpr ⟨rfl, List.forall_mem_cons.mpr ⟨rfl, List.forall_mem_cons.mpr ⟨rfl, List.forall_mem_cons.mpr ⟨rfl, fun _ h => absurd h List.not_mem_nil⟩⟩⟩⟩⟩) rfl rfl rfl
        have kk := (hK (n0 - pN P 1 c + j) (by omega)).1
        rw [sl_hi (by omega), show n0 - pN P 1 c + j - L + 6 = (n0 - pN P 1 c - L + 6) + j by omega] at kk
        show ceA (if j < pN P 1 c then _ else _ : Sl).1 _
        rw [if_pos j1]
        exact ce_mk (ceA_nr kk)
end RCD
