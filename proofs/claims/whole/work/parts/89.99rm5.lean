-- needs: 89.98
section RM5
variable {l : Launch} {V : gi_V} {n : Nat} {h h' : gi_H} {M k : Nat} {P : Pm} {sh : Nat → Option Sh} {S S' : Nat → Int32} {J J' : Nat → Int64} {F F' : Nat → Nat → Int32} {G : Nat → Nat → Int64} {Fz : Fa} {cb : Bool} {z : Mc} {x : Mc} {p : Nat}
theorem mcR.got {t : Nat} (R : mcR P cb x S J F) (t60 : t ≤ 60) (ef : ∀ j, j ≠ 79 → F' j = F j) (e79 : ∀ i, F' 79 i = if i = x.top then nI (60 * x.cur.m + t) else F 79 i) : mcR P cb (gotZ x t) S J F' := by
  have R0 : frX P x.top x.cur F := R.2.2.2.2.2.2.2.2.2.2 x.top (Nat.le_refl _)
  obtain ⟨p1, p2, p3, p4, p5, p6, p7⟩ := R0
  refine R.setF (fun j h1 h2 h3 => ef j h2) (fun i _ => by rw [ef 78 (by decide)]) (fun s hs => ⟨by rw [e79, if_neg hs], by rw [ef 80 (by decide)]⟩) ⟨by rw [e79, if_pos rfl], by rw [ef 80 (by decide)]; exact p2, p3, p4, p5, ⟨p6.1, t60⟩, fun j hj => by rw [ef 78 (by decide)]; exact p7 j hj⟩
theorem mcR.loc {b : Nat} {v : Int32} (R : mcR P cb x S J F) (hb : b < pN P 2 x.cur.m) (ef : ∀ j, j ≠ 78 → F' j = F j) (e78 : ∀ i, F' 78 i = if i = 14 * x.top + b then v else F 78 i) : mcR P cb (locZ x b v) S J F' := by
  have R0 : frX P x.top x.cur F := R.2.2.2.2.2.2.2.2.2.2 x.top (Nat.le_refl _)
  obtain ⟨p1, p2, p3, p4, p5, p6, p7⟩ := R0
  refine R.setF (fun j h1 h2 h3 => ef j h1) (fun i hi => by rw [e78, if_neg (by omega)]) (fun s hs => ⟨by rw [ef 79 (by decide)], by rw [ef 80 (by decide)]⟩) ⟨by rw [ef 79 (by decide)]; exact p1, by rw [ef 80 (by decide)]; exact p2, p3, p4, p5, p6, fun j hj => ?_⟩
  have hj' : j < x.cur.n := hj
  show F' 78 (14 * x.top + sl (pN P 2 x.cur.m) j) = upO x.cur.s b v j
  rw [e78]
  by_cases q : j = b
  · subst q
    rw [if_pos (by rw [sl_lo hb]), upO_self]
  · rw [if_neg, upO_ne q]
    · exact p7 j hj'
    · intro e
      apply q
      apply sl_inj p4
      show sl (pN P 2 x.cur.m) j = sl (pN P 2 x.cur.m) b
      rw [sl_lo hb]
      omega
theorem mcR.fld {b : Bool} {a : Nat} {v : Int32} (R : mcR P cb x S J F) (e88 : (cb = true → S' 88 = bI (x.as || b)) ∧ (cb = false → S' 88 = 0)) (es : ∀ j, j ≠ 88 → S' j = S j) (ef : ∀ j, j ≠ 77 → F' j = F j) (e77 : ∀ q, F' 77 q = if q = a then v else F 77 q) : mcR P cb (astZ (fdZ x a v) b) S' J F' := by
  obtain ⟨r1, ⟨q1, q2, q3, q4, q5⟩, r3, r4, r5, r6, r7, r8, r9, r9', r10⟩ := R
  refine ⟨r1, ⟨q1, (es 75 (by decide)).trans q2, (es 76 (by decide)).trans q3, ?_, ?_⟩, fun j hj => ?_, (es 81 (by decide)).trans r4, (es 82 (by decide)).trans r5, (es 85 (by decide)).trans r6, r7, r8, e88.1, e88.2, fun t ht => ?_⟩
  · rw [ef 72 (by decide), ef 73 (by decide), ef 74 (by decide)]; exact q4
  · rw [ef 71 (by decide)]; exact q5
  · show F' 77 j = upO x.fd a v j
    rw [e77]
    by_cases e : j = a
    · rw [if_pos e, e, upO_self]
    · rw [if_neg e, upO_ne e]
      exact r3 j hj
  · obtain ⟨p1, p2, p3, p4, p5, p6, p7⟩ := r10 t ht
    exact ⟨by rw [ef 79 (by decide)]; exact p1, by rw [ef 80 (by decide)]; exact p2, p3, p4, p5, p6, fun j hj => by rw [ef 78 (by decide)]; exact p7 j hj⟩
theorem got_nn (z : Mc) (t : Nat) : (gotZ z t).cur.n = z.cur.n := got_n z t
theorem mk_Q {s : Nat} : (makZ Fz s x).1 = mkQ Fz s (topV x) (popZ x) := by
  unfold makZ mkQ
  split
  · rfl
  · show (if 300 ≤ x.hp.c ∨ 2000 < x.hp.u + (topV x).toNatClampNeg then _ else _ : Mc × Int32).1 = if 300 ≤ x.hp.c ∨ 2000 < x.hp.u + (topV x).toNatClampNeg then _ else _
    split <;> rfl
set_option maxHeartbeats 4000000 in
set_option maxRecDepth 100000 in
theorem c_Mo_other_0 {m : Nat} (hmm : x.cur.m = m) (R : mcR P cb x S J F) (h8 : x.cur.n - pN P 2 x.cur.m ≤ 8) (a : Int32) (hn : x.cur.n - pN P 2 x.cur.m < 8) (hc : ceX P sh cb Fz S F G) (H : mo_at M S J F G h) : gi_T l V y_Mo_other b_Mo_other 8 none 4 96 0 0 [.ref M, .int (nI m), .int (nI p), .int 0, .int a] n h (fun r n' h' => r = none ∧ n' = n ∧ mcP M P cb (movZ 0 a x) h S J F G h') := by
  refine gi_enter (by decide) (Nat.le_of_ble_eq_true rfl) ?_
  intro _ _ _ _ _ _ _ _ C hr hnm
  obtain ⟨fs, Ha, Hf⟩ := id H.1
  have ho : outM M h h := outM.rf
  subst hmm
  have fm : frM S S J J F F := frM.rf
  have h81 := R.2.2.2.1
  have ht := R.1
  have R0 : frX P x.top x.cur F := R.2.2.2.2.2.2.2.2.2.2 x.top (Nat.le_refl _)
  obtain ⟨p1, p2, p3, p4, p5, p6, p7⟩ := R0
  refine gi_iload_n (q := 1) (i := 3) C (dm_Mo_other 0 rfl) rfl rfl rfl ?_
  refine gi_tableIn (off := 155) (tgt := 156) C (dm_Mo_other 1 rfl) (by decide) (by decide) rfl (by decide) ?_
  refine gi_aload_n (q := 157) (i := 0) C (dm_Mo_other 2 rfl) rfl rfl rfl ?_
  refine gi_iload (q := 159) C (dm_Mo_other 3 rfl) rfl rfl ?_
  refine gi_callv 1 (q := 162) C (dm_Mo_other 4 rfl) rfl my_Mo_push lk_Mo_594 im_Mo_push rfl (c_Mo_push a R hn H) Ha rfl rfl ⟨(Nat.le_of_ble_eq_true rfl), (Nat.le_of_ble_eq_true rfl)⟩ (Nat.le_of_ble_eq_true rfl) ⟨(Nat.le_of_ble_eq_true rfl), (Nat.le_of_ble_eq_true rfl)⟩ (fun r159 n159 h159 e159 => ?_)
  obtain ⟨rfl, qn159, p9⟩ := e159
  rw [qn159]
  have p9 := p9.tr ho fm
  refine gi_goto (tgt := 449) C (dm_Mo_other 5 rfl) (by decide) ?_
  refine gi_vret C hr (dm_Mo_other 152 rfl) ?_
  refine ⟨rfl, rfl, ?_⟩
  unfold movZ
  rw [if_pos rfl]
  exact p9
set_option maxHeartbeats 4000000 in
set_option maxRecDepth 100000 in
theorem c_Mo_other_1 {m : Nat} (hmm : x.cur.m = m) (R : mcR P cb x S J F) (h8 : x.cur.n - pN P 2 x.cur.m ≤ 8) {a : Nat} (hn : x.cur.n - pN P 2 x.cur.m < 8) (ha : a < pN P 2 x.cur.m) (hc : ceX P sh cb Fz S F G) (H : mo_at M S J F G h) : gi_T l V y_Mo_other b_Mo_other 8 none 4 96 0 0 [.ref M, .int (nI m), .int (nI p), .int 1, .int (nI a)] n h (fun r n' h' => r = none ∧ n' = n ∧ mcP M P cb (movZ 1 (nI a) x) h S J F G h') := by
  refine gi_enter (by decide) (Nat.le_of_ble_eq_true rfl) ?_
  intro _ _ _ _ _ _ _ _ C hr hnm
  obtain ⟨fs, Ha, Hf⟩ := id H.1
  have ho : outM M h h := outM.rf
  subst hmm
  have fm : frM S S J J F F := frM.rf
  have h81 := R.2.2.2.1
  have ht := R.1
  have R0 : frX P x.top x.cur F := R.2.2.2.2.2.2.2.2.2.2 x.top (Nat.le_refl _)
  obtain ⟨p1, p2, p3, p4, p5, p6, p7⟩ := R0
  refine gi_iload_n (q := 1) (i := 3) C (dm_Mo_other 0 rfl) rfl rfl rfl ?_
  refine gi_tableIn (off := 164) (tgt := 165) C (dm_Mo_other 1 rfl) (by decide) (by decide) rfl (by decide) ?_
  refine gi_aload_n (q := 166) (i := 0) C (dm_Mo_other 6 rfl) rfl rfl rfl ?_
  refine gi_aload_n (q := 167) (i := 0) C (dm_Mo_other 7 rfl) rfl rfl rfl ?_
  refine gi_get (q := 170) C (dm_Mo_other 8 rfl) rfl fl_Mo_164 Ha (mo_g78 Hf) ?_
  refine gi_aload_n (q := 171) (i := 0) C (dm_Mo_other 9 rfl) rfl rfl rfl ?_
  refine gi_iload (q := 173) C (dm_Mo_other 10 rfl) rfl rfl ?_
  refine gi_callv 1 (q := 176) C (dm_Mo_other 11 rfl) rfl my_Mo_f lk_Mo_558 im_Mo_f rfl (c_Mo_f h81 ht (show a < 100 by omega) H) Ha rfl rfl ⟨(Nat.le_of_ble_eq_true rfl), (Nat.le_of_ble_eq_true rfl)⟩ (Nat.le_of_ble_eq_true rfl) ⟨(Nat.le_of_ble_eq_true rfl), (Nat.le_of_ble_eq_true rfl)⟩ (fun r173 n173 h173 e173 => ?_)
  obtain ⟨rfl, q173, u173⟩ := e173
  rw [q173, u173]
  refine gi_iald (q := 177) C (dm_Mo_other 12 rfl) rfl rfl (mo_a78 H) (inN (show 14 * x.top + a < 224 by omega) (by decide)) ?_
  rw [nI_clamp (show 14 * x.top + a < 2 ^ 31 by omega)]
  have q7 := p7 a (by omega)
  rw [sl_lo ha] at q7
  rw [q7]
  refine gi_callv 1 (q := 180) C (dm_Mo_other 13 rfl) rfl my_Mo_push lk_Mo_594 im_Mo_push rfl (c_Mo_push _ R hn H) Ha rfl rfl ⟨(Nat.le_of_ble_eq_true rfl), (Nat.le_of_ble_eq_true rfl)⟩ (Nat.le_of_ble_eq_true rfl) ⟨(Nat.le_of_ble_eq_true rfl), (Nat.le_of_ble_eq_true rfl)⟩ (fun r177 n177 h177 e177 => ?_)
  obtain ⟨rfl, qn177, p9⟩ := e177
  rw [qn177]
  have p9 := p9.tr ho fm
  refine gi_goto (tgt := 449) C (dm_Mo_other 14 rfl) (by decide) ?_
  refine gi_vret C hr (dm_Mo_other 152 rfl) ?_
  refine ⟨rfl, rfl, ?_⟩
  unfold movZ
  rw [if_neg (by decide), if_pos rfl, nI_clamp (show a < 2 ^ 31 by omega)]
  exact p9
set_option maxHeartbeats 4000000 in
set_option maxRecDepth 100000 in
theorem c_Mo_other_2 {m : Nat} (hmm : x.cur.m = m) (R : mcR P cb x S J F) (h8 : x.cur.n - pN P 2 x.cur.m ≤ 8) {a : Nat} (hn : pN P 2 x.cur.m + 1 ≤ x.cur.n) (ha : a < pN P 2 x.cur.m) (hc : ceX P sh cb Fz S F G) (H : mo_at M S J F G h) : gi_T l V y_Mo_other b_Mo_other 8 none 4 96 0 0 [.ref M, .int (nI m), .int (nI p), .int 2, .int (nI a)] n h (fun r n' h' => r = none ∧ n' = n ∧ mcP M P cb (movZ 2 (nI a) x) h S J F G h') := by
  refine gi_enter (by decide) (Nat.le_of_ble_eq_true rfl) ?_
  intro _ _ _ _ _ _ _ _ C hr hnm
  obtain ⟨fs, Ha, Hf⟩ := id H.1
  have ho : outM M h h := outM.rf
  subst hmm
  have fm : frM S S J J F F := frM.rf
  have h81 := R.2.2.2.1
  have ht := R.1
  have R0 : frX P x.top x.cur F := R.2.2.2.2.2.2.2.2.2.2 x.top (Nat.le_refl _)
  obtain ⟨p1, p2, p3, p4, p5, p6, p7⟩ := R0
  refine gi_iload_n (q := 1) (i := 3) C (dm_Mo_other 0 rfl) rfl rfl rfl ?_
  refine gi_tableIn (off := 182) (tgt := 183) C (dm_Mo_other 1 rfl) (by decide) (by decide) rfl (by decide) ?_
  refine gi_aload_n (q := 184) (i := 0) C (dm_Mo_other 15 rfl) rfl rfl rfl ?_
  refine gi_get (q := 187) C (dm_Mo_other 16 rfl) rfl fl_Mo_164 Ha (mo_g78 Hf) ?_
  refine gi_aload_n (q := 188) (i := 0) C (dm_Mo_other 17 rfl) rfl rfl rfl ?_
  refine gi_iload (q := 190) C (dm_Mo_other 18 rfl) rfl rfl ?_
  refine gi_callv 1 (q := 193) C (dm_Mo_other 19 rfl) rfl my_Mo_f lk_Mo_558 im_Mo_f rfl (c_Mo_f h81 ht (show a < 100 by omega) H) Ha rfl rfl ⟨(Nat.le_of_ble_eq_true rfl), (Nat.le_of_ble_eq_true rfl)⟩ (Nat.le_of_ble_eq_true rfl) ⟨(Nat.le_of_ble_eq_true rfl), (Nat.le_of_ble_eq_true rfl)⟩ (fun r190 n190 h190 e190 => ?_)
  obtain ⟨rfl, q190, u190⟩ := e190
  rw [q190, u190]
  refine gi_aload_n (q := 194) (i := 0) C (dm_Mo_other 20 rfl) rfl rfl rfl ?_
  refine gi_callv 0 (q := 197) C (dm_Mo_other 21 rfl) rfl my_Mo_pop lk_Mo_588 im_Mo_pop rfl (c_Mo_pop R hn H) Ha rfl rfl ⟨(Nat.le_of_ble_eq_true rfl), (Nat.le_of_ble_eq_true rfl)⟩ (Nat.le_of_ble_eq_true rfl) ⟨(Nat.le_of_ble_eq_true rfl), (Nat.le_of_ble_eq_true rfl)⟩ (fun r194 n194 h194 e194 => ?_)
  obtain ⟨rfl, qn194, S1, J1, F1, H1, o1, f1, R1⟩ := e194
  rw [qn194]
  have H := H1
  obtain ⟨fs, Ha, Hf⟩ := id H.1
  have ho := ho.tr o1
  have fm := fm.tr f1
  have R := R1
  have hc := hc.fr f1
  refine gi_iast (q := 198) C (dm_Mo_other 22 rfl) rfl rfl (mo_a78 H) (inN (show 14 * x.top + a < 224 by omega) (by decide)) ?_
  refine gi_genM (H.setI (p := 48) (k := 78) (by decide) rfl rfl (by decide) rfl (by omega)) (ho.up (by omega) (by omega)) (fun y H ho => ?_)
  obtain ⟨fs, Ha, Hf⟩ := id H.1
  refine gi_goto (tgt := 449) C (dm_Mo_other 23 rfl) (by decide) ?_
  refine gi_vret C hr (dm_Mo_other 152 rfl) ?_
  refine ⟨rfl, rfl, ?_⟩
  rw [nI_clamp (show 14 * x.top + a < 2 ^ 31 by omega)] at H
  unfold movZ
  rw [if_neg (by decide), if_neg (by decide), if_pos rfl, nI_clamp (show a < 2 ^ 31 by omega)]
  exact ⟨_, _, _, H, ho, fm.tr ⟨fun _ _ => rfl, fun _ _ => rfl, fun j hj => by rw [upA_n (by omega)]⟩, R.loc (x := popZ x) (by rw [pop_m]; exact ha) (fun j hj => upA_n hj) (fun i => by rw [upA_i, upd_is]; rfl)⟩
set_option maxHeartbeats 4000000 in
set_option maxRecDepth 100000 in
theorem c_Mo_other_3 {m : Nat} (hmm : x.cur.m = m) (R : mcR P cb x S J F) (h8 : x.cur.n - pN P 2 x.cur.m ≤ 8) (a : Int32) (hn : x.cur.n - pN P 2 x.cur.m < 8) (hc : ceX P sh cb Fz S F G) (H : mo_at M S J F G h) : gi_T l V y_Mo_other b_Mo_other 8 none 4 96 0 0 [.ref M, .int (nI m), .int (nI p), .int 3, .int a] n h (fun r n' h' => r = none ∧ n' = n ∧ mcP M P cb (movZ 3 a x) h S J F G h') := by
  refine gi_enter (by decide) (Nat.le_of_ble_eq_true rfl) ?_
  intro _ _ _ _ _ _ _ _ C hr hnm
  obtain ⟨fs, Ha, Hf⟩ := id H.1
  have ho : outM M h h := outM.rf
  subst hmm
  have fm : frM S S J J F F := frM.rf
  have h81 := R.2.2.2.1
  have ht := R.1
  have R0 : frX P x.top x.cur F := R.2.2.2.2.2.2.2.2.2.2 x.top (Nat.le_refl _)
  obtain ⟨p1, p2, p3, p4, p5, p6, p7⟩ := R0
  refine gi_iload_n (q := 1) (i := 3) C (dm_Mo_other 0 rfl) rfl rfl rfl ?_
  refine gi_tableIn (off := 200) (tgt := 201) C (dm_Mo_other 1 rfl) (by decide) (by decide) rfl (by decide) ?_
  refine gi_aload_n (q := 202) (i := 0) C (dm_Mo_other 24 rfl) rfl rfl rfl ?_
  refine gi_iconst (q := 203) (v := 0) C (dm_Mo_other 25 rfl) rfl (by decide) ?_
  refine gi_callv 1 (q := 206) C (dm_Mo_other 26 rfl) rfl my_Mo_push lk_Mo_594 im_Mo_push rfl (c_Mo_push 0 R hn H) Ha rfl rfl ⟨(Nat.le_of_ble_eq_true rfl), (Nat.le_of_ble_eq_true rfl)⟩ (Nat.le_of_ble_eq_true rfl) ⟨(Nat.le_of_ble_eq_true rfl), (Nat.le_of_ble_eq_true rfl)⟩ (fun r203 n203 h203 e203 => ?_)
  obtain ⟨rfl, qn203, p9⟩ := e203
  rw [qn203]
  have p9 := p9.tr ho fm
  refine gi_goto (tgt := 449) C (dm_Mo_other 27 rfl) (by decide) ?_
  refine gi_vret C hr (dm_Mo_other 152 rfl) ?_
  refine ⟨rfl, rfl, ?_⟩
  unfold movZ
  rw [if_neg (by decide), if_neg (by decide), if_neg (by decide), if_pos rfl]
  exact p9
set_option maxHeartbeats 4000000 in
set_option maxRecDepth 100000 in
theorem c_Mo_other_4 {m : Nat} (hmm : x.cur.m = m) (R : mcR P cb x S J F) (h8 : x.cur.n - pN P 2 x.cur.m ≤ 8) (a : Int32) (hn : pN P 2 x.cur.m + 1 ≤ x.cur.n) (hc : ceX P sh cb Fz S F G) (H : mo_at M S J F G h) : gi_T l V y_Mo_other b_Mo_other 8 none 4 96 0 0 [.ref M, .int (nI m), .int (nI p), .int 4, .int a] n h (fun r n' h' => r = none ∧ n' = n ∧ mcP M P cb (movZ 4 a x) h S J F G h') := by
  refine gi_enter (by decide) (Nat.le_of_ble_eq_true rfl) ?_
  intro _ _ _ _ _ _ _ _ C hr hnm
  obtain ⟨fs, Ha, Hf⟩ := id H.1
  have ho : outM M h h := outM.rf
  subst hmm
  have fm : frM S S J J F F := frM.rf
  have h81 := R.2.2.2.1
  have ht := R.1
  have R0 : frX P x.top x.cur F := R.2.2.2.2.2.2.2.2.2.2 x.top (Nat.le_refl _)
  obtain ⟨p1, p2, p3, p4, p5, p6, p7⟩ := R0
  refine gi_iload_n (q := 1) (i := 3) C (dm_Mo_other 0 rfl) rfl rfl rfl ?_
  refine gi_tableIn (off := 208) (tgt := 209) C (dm_Mo_other 1 rfl) (by decide) (by decide) rfl (by decide) ?_
  refine gi_aload_n (q := 210) (i := 0) C (dm_Mo_other 28 rfl) rfl rfl rfl ?_
  refine gi_callv 0 (q := 213) C (dm_Mo_other 29 rfl) rfl my_Mo_pop lk_Mo_588 im_Mo_pop rfl (c_Mo_pop R hn H) Ha rfl rfl ⟨(Nat.le_of_ble_eq_true rfl), (Nat.le_of_ble_eq_true rfl)⟩ (Nat.le_of_ble_eq_true rfl) ⟨(Nat.le_of_ble_eq_true rfl), (Nat.le_of_ble_eq_true rfl)⟩ (fun r210 n210 h210 e210 => ?_)
  obtain ⟨rfl, qn210, p9⟩ := e210
  rw [qn210]
  have p9 := p9.tr ho fm
  refine gi_pop (q := 214) C (dm_Mo_other 30 rfl) rfl rfl ?_
  refine gi_goto (tgt := 449) C (dm_Mo_other 31 rfl) (by decide) ?_
  refine gi_vret C hr (dm_Mo_other 152 rfl) ?_
  refine ⟨rfl, rfl, ?_⟩
  unfold movZ
  rw [if_neg (by decide), if_neg (by decide), if_neg (by decide), if_neg (by decide), if_pos rfl]
  exact p9
set_option maxHeartbeats 4000000 in
set_option maxRecDepth 100000 in
theorem c_Mo_other_5 {m : Nat} (hmm : x.cur.m = m) (R : mcR P cb x S J F) (h8 : x.cur.n - pN P 2 x.cur.m ≤ 8) (a : Int32) (hn : pN P 2 x.cur.m + 1 ≤ x.cur.n) (hm : x.cur.n - pN P 2 x.cur.m < 8) (hc : ceX P sh cb Fz S F G) (H : mo_at M S J F G h) : gi_T l V y_Mo_other b_Mo_other 8 none 4 96 0 0 [.ref M, .int (nI m), .int (nI p), .int 5, .int a] n h (fun r n' h' => r = none ∧ n' = n ∧ mcP M P cb (movZ 5 a x) h S J F G h') := by
  refine gi_enter (by decide) (Nat.le_of_ble_eq_true rfl) ?_
  intro _ _ _ _ _ _ _ _ C hr hnm
  obtain ⟨fs, Ha, Hf⟩ := id H.1
  have ho : outM M h h := outM.rf
  subst hmm
  have fm : frM S S J J F F := frM.rf
  have h81 := R.2.2.2.1
  have ht := R.1
  have R0 : frX P x.top x.cur F := R.2.2.2.2.2.2.2.2.2.2 x.top (Nat.le_refl _)
  obtain ⟨p1, p2, p3, p4, p5, p6, p7⟩ := R0
  refine gi_iload_n (q := 1) (i := 3) C (dm_Mo_other 0 rfl) rfl rfl rfl ?_
  refine gi_tableIn (off := 216) (tgt := 217) C (dm_Mo_other 1 rfl) (by decide) (by decide) rfl (by decide) ?_
  refine gi_aload_n (q := 218) (i := 0) C (dm_Mo_other 32 rfl) rfl rfl rfl ?_
  refine gi_callv 0 (q := 221) C (dm_Mo_other 33 rfl) rfl my_Mo_pop lk_Mo_588 im_Mo_pop rfl (c_Mo_pop R hn H) Ha rfl rfl ⟨(Nat.le_of_ble_eq_true rfl), (Nat.le_of_ble_eq_true rfl)⟩ (Nat.le_of_ble_eq_true rfl) ⟨(Nat.le_of_ble_eq_true rfl), (Nat.le_of_ble_eq_true rfl)⟩ (fun r218 n218 h218 e218 => ?_)
  obtain ⟨rfl, qn218, S1, J1, F1, H1, o1, f1, R1⟩ := e218
  rw [qn218]
  have H := H1
  obtain ⟨fs, Ha, Hf⟩ := id H.1
  have ho := ho.tr o1
  have fm := fm.tr f1
  have R := R1
  have hc := hc.fr f1
  refine gi_istore (q := 223) C (dm_Mo_other 34 rfl) rfl (Nat.le_of_ble_eq_true rfl) ?_
  refine gi_aload_n (q := 224) (i := 0) C (dm_Mo_other 35 rfl) rfl rfl rfl ?_
  refine gi_iload (q := 226) C (dm_Mo_other 36 rfl) rfl rfl ?_
  refine gi_callv 1 (q := 229) C (dm_Mo_other 37 rfl) rfl my_Mo_push lk_Mo_594 im_Mo_push rfl (c_Mo_push (topV x) R (by rw [pop_m, pop_nn]; omega) H) Ha rfl rfl ⟨(Nat.le_of_ble_eq_true rfl), (Nat.le_of_ble_eq_true rfl)⟩ (Nat.le_of_ble_eq_true rfl) ⟨(Nat.le_of_ble_eq_true rfl), (Nat.le_of_ble_eq_true rfl)⟩ (fun r226 n226 h226 e226 => ?_)
  obtain ⟨rfl, qn226, S1, J1, F1, H1, o1, f1, R1⟩ := e226
  rw [qn226]
  have H := H1
  obtain ⟨fs, Ha, Hf⟩ := id H.1
  have ho := ho.tr o1
  have fm := fm.tr f1
  have R := R1
  have hc := hc.fr f1
  refine gi_aload_n (q := 230) (i := 0) C (dm_Mo_other 38 rfl) rfl rfl rfl ?_
  refine gi_iload (q := 232) C (dm_Mo_other 39 rfl) rfl rfl ?_
  refine gi_callv 1 (q := 235) C (dm_Mo_other 40 rfl) rfl my_Mo_push lk_Mo_594 im_Mo_push rfl (c_Mo_push (topV x) R (by rw [psh_m, psh_nn, pop_m, pop_nn]; omega) H) Ha rfl rfl ⟨(Nat.le_of_ble_eq_true rfl), (Nat.le_of_ble_eq_true rfl)⟩ (Nat.le_of_ble_eq_true rfl) ⟨(Nat.le_of_ble_eq_true rfl), (Nat.le_of_ble_eq_true rfl)⟩ (fun r232 n232 h232 e232 => ?_)
  obtain ⟨rfl, qn232, p9⟩ := e232
  rw [qn232]
  have p9 := p9.tr ho fm
  refine gi_goto (tgt := 449) C (dm_Mo_other 41 rfl) (by decide) ?_
  refine gi_vret C hr (dm_Mo_other 152 rfl) ?_
  refine ⟨rfl, rfl, ?_⟩
  unfold movZ
  rw [if_neg (by decide), if_neg (by decide), if_neg (by decide), if_neg (by decide), if_neg (by decide), if_pos rfl]
  exact p9
set_option maxHeartbeats 4000000 in
set_option maxRecDepth 100000 in
theorem c_Mo_other_6 {m : Nat} (hmm : x.cur.m = m) (R : mcR P cb x S J F) (h8 : x.cur.n - pN P 2 x.cur.m ≤ 8) (a : Int32) (hn : pN P 2 x.cur.m + 2 ≤ x.cur.n) (hc : ceX P sh cb Fz S F G) (H : mo_at M S J F G h) : gi_T l V y_Mo_other b_Mo_other 8 none 4 96 0 0 [.ref M, .int (nI m), .int (nI p), .int 6, .int a] n h (fun r n' h' => r = none ∧ n' = n ∧ mcP M P cb (movZ 6 a x) h S J F G h') := by
  refine gi_enter (by decide) (Nat.le_of_ble_eq_true rfl) ?_
  intro _ _ _ _ _ _ _ _ C hr hnm
  obtain ⟨fs, Ha, Hf⟩ := id H.1
  have ho : outM M h h := outM.rf
  subst hmm
  have fm : frM S S J J F F := frM.rf
  have h81 := R.2.2.2.1
  have ht := R.1
  have R0 : frX P x.top x.cur F := R.2.2.2.2.2.2.2.2.2.2 x.top (Nat.le_refl _)
  obtain ⟨p1, p2, p3, p4, p5, p6, p7⟩ := R0
  refine gi_iload_n (q := 1) (i := 3) C (dm_Mo_other 0 rfl) rfl rfl rfl ?_
  refine gi_tableIn (off := 237) (tgt := 238) C (dm_Mo_other 1 rfl) (by decide) (by decide) rfl (by decide) ?_
  refine gi_aload_n (q := 239) (i := 0) C (dm_Mo_other 42 rfl) rfl rfl rfl ?_
  refine gi_callv 0 (q := 242) C (dm_Mo_other 43 rfl) rfl my_Mo_pop lk_Mo_588 im_Mo_pop rfl (c_Mo_pop R (by omega) H) Ha rfl rfl ⟨(Nat.le_of_ble_eq_true rfl), (Nat.le_of_ble_eq_true rfl)⟩ (Nat.le_of_ble_eq_true rfl) ⟨(Nat.le_of_ble_eq_true rfl), (Nat.le_of_ble_eq_true rfl)⟩ (fun r239 n239 h239 e239 => ?_)
  obtain ⟨rfl, qn239, S1, J1, F1, H1, o1, f1, R1⟩ := e239
  rw [qn239]
  have H := H1
  obtain ⟨fs, Ha, Hf⟩ := id H.1
  have ho := ho.tr o1
  have fm := fm.tr f1
  have R := R1
  have hc := hc.fr f1
  refine gi_istore (q := 244) C (dm_Mo_other 44 rfl) rfl (Nat.le_of_ble_eq_true rfl) ?_
  refine gi_aload_n (q := 245) (i := 0) C (dm_Mo_other 45 rfl) rfl rfl rfl ?_
  refine gi_callv 0 (q := 248) C (dm_Mo_other 46 rfl) rfl my_Mo_pop lk_Mo_588 im_Mo_pop rfl (c_Mo_pop R (by rw [pop_m, pop_nn]; omega) H) Ha rfl rfl ⟨(Nat.le_of_ble_eq_true rfl), (Nat.le_of_ble_eq_true rfl)⟩ (Nat.le_of_ble_eq_true rfl) ⟨(Nat.le_of_ble_eq_true rfl), (Nat.le_of_ble_eq_true rfl)⟩ (fun r245 n245 h245 e245 => ?_)
  obtain ⟨rfl, qn245, S1, J1, F1, H1, o1, f1, R1⟩ := e245
  rw [qn245]
  have H := H1
  obtain ⟨fs, Ha, Hf⟩ := id H.1
  have ho := ho.tr o1
  have fm := fm.tr f1
  have R := R1
  have hc := hc.fr f1
  refine gi_istore (q := 250) C (dm_Mo_other 47 rfl) rfl (Nat.le_of_ble_eq_true rfl) ?_
  refine gi_aload_n (q := 251) (i := 0) C (dm_Mo_other 48 rfl) rfl rfl rfl ?_
  refine gi_iload (q := 253) C (dm_Mo_other 49 rfl) rfl rfl ?_
  refine gi_callv 1 (q := 256) C (dm_Mo_other 50 rfl) rfl my_Mo_push lk_Mo_594 im_Mo_push rfl (c_Mo_push (topV x) R (by rw [pop_m, pop_m, pop_nn, pop_nn]; omega) H) Ha rfl rfl ⟨(Nat.le_of_ble_eq_true rfl), (Nat.le_of_ble_eq_true rfl)⟩ (Nat.le_of_ble_eq_true rfl) ⟨(Nat.le_of_ble_eq_true rfl), (Nat.le_of_ble_eq_true rfl)⟩ (fun r253 n253 h253 e253 => ?_)
  obtain ⟨rfl, qn253, S1, J1, F1, H1, o1, f1, R1⟩ := e253
  rw [qn253]
  have H := H1
  obtain ⟨fs, Ha, Hf⟩ := id H.1
  have ho := ho.tr o1
  have fm := fm.tr f1
  have R := R1
  have hc := hc.fr f1
  refine gi_aload_n (q := 257) (i := 0) C (dm_Mo_other 51 rfl) rfl rfl rfl ?_
  refine gi_iload (q := 259) C (dm_Mo_other 52 rfl) rfl rfl ?_
  refine gi_callv 1 (q := 262) C (dm_Mo_other 53 rfl) rfl my_Mo_push lk_Mo_594 im_Mo_push rfl (c_Mo_push (topV (popZ x)) R (by rw [psh_m, psh_nn, pop_m, pop_m, pop_nn, pop_nn]; omega) H) Ha rfl rfl ⟨(Nat.le_of_ble_eq_true rfl), (Nat.le_of_ble_eq_true rfl)⟩ (Nat.le_of_ble_eq_true rfl) ⟨(Nat.le_of_ble_eq_true rfl), (Nat.le_of_ble_eq_true rfl)⟩ (fun r259 n259 h259 e259 => ?_)
  obtain ⟨rfl, qn259, p9⟩ := e259
  rw [qn259]
  have p9 := p9.tr ho fm
  refine gi_goto (tgt := 449) C (dm_Mo_other 54 rfl) (by decide) ?_
  refine gi_vret C hr (dm_Mo_other 152 rfl) ?_
  refine ⟨rfl, rfl, ?_⟩
  unfold movZ
  rw [if_neg (by decide), if_neg (by decide), if_neg (by decide), if_neg (by decide), if_neg (by decide), if_neg (by decide)]
  exact p9
set_option maxHeartbeats 4000000 in
set_option maxRecDepth 100000 in
theorem c_Mo_other_18 {m : Nat} (hmm : x.cur.m = m) (R : mcR P cb x S J F) (h8 : x.cur.n - pN P 2 x.cur.m ≤ 8) (a : Int32) (hn : pN P 2 x.cur.m + 1 ≤ x.cur.n) (hc : ceX P sh cb Fz S F G) (H : mo_at M S J F G h) : gi_T l V y_Mo_other b_Mo_other 8 none 4 96 0 0 [.ref M, .int (nI m), .int (nI p), .int 18, .int a] n h (fun r n' h' => r = none ∧ n' = n ∧ mcP M P cb (rckZ 18 x).1 h S J F G h') := by
  refine gi_enter (by decide) (Nat.le_of_ble_eq_true rfl) ?_
  intro _ _ _ _ _ _ _ _ C hr hnm
  obtain ⟨fs, Ha, Hf⟩ := id H.1
  have ho : outM M h h := outM.rf
  subst hmm
  have fm : frM S S J J F F := frM.rf
  have h81 := R.2.2.2.1
  have ht := R.1
  have R0 : frX P x.top x.cur F := R.2.2.2.2.2.2.2.2.2.2 x.top (Nat.le_refl _)
  obtain ⟨p1, p2, p3, p4, p5, p6, p7⟩ := R0
  refine gi_iload_n (q := 1) (i := 3) C (dm_Mo_other 0 rfl) rfl rfl rfl ?_
  refine gi_tableIn (off := 264) (tgt := 265) C (dm_Mo_other 1 rfl) (by decide) (by decide) rfl (by decide) ?_
  refine gi_aload_n (q := 266) (i := 0) C (dm_Mo_other 55 rfl) rfl rfl rfl ?_
  refine gi_aload_n (q := 267) (i := 0) C (dm_Mo_other 56 rfl) rfl rfl rfl ?_
  refine gi_callv 0 (q := 270) C (dm_Mo_other 57 rfl) rfl my_Mo_pop lk_Mo_588 im_Mo_pop rfl (c_Mo_pop R hn H) Ha rfl rfl ⟨(Nat.le_of_ble_eq_true rfl), (Nat.le_of_ble_eq_true rfl)⟩ (Nat.le_of_ble_eq_true rfl) ⟨(Nat.le_of_ble_eq_true rfl), (Nat.le_of_ble_eq_true rfl)⟩ (fun r267 n267 h267 e267 => ?_)
  obtain ⟨rfl, qn267, S1, J1, F1, H1, o1, f1, R1⟩ := e267
  rw [qn267]
  have H := H1
  obtain ⟨fs, Ha, Hf⟩ := id H.1
  have ho := ho.tr o1
  have fm := fm.tr f1
  have R := R1
  have hc := hc.fr f1
  refine gi_ineg (q := 271) C (dm_Mo_other 58 rfl) rfl ?_
  refine gi_callv 1 (q := 274) C (dm_Mo_other 59 rfl) rfl my_Mo_push lk_Mo_594 im_Mo_push rfl (c_Mo_push _ R (by rw [pop_m, pop_nn]; omega) H) Ha rfl rfl ⟨(Nat.le_of_ble_eq_true rfl), (Nat.le_of_ble_eq_true rfl)⟩ (Nat.le_of_ble_eq_true rfl) ⟨(Nat.le_of_ble_eq_true rfl), (Nat.le_of_ble_eq_true rfl)⟩ (fun r271 n271 h271 e271 => ?_)
  obtain ⟨rfl, qn271, p9⟩ := e271
  rw [qn271]
  have p9 := p9.tr ho fm
  refine gi_goto (tgt := 449) C (dm_Mo_other 60 rfl) (by decide) ?_
  refine gi_vret C hr (dm_Mo_other 152 rfl) ?_
  refine ⟨rfl, rfl, ?_⟩
  unfold rckZ
  rw [if_pos rfl]
  exact p9
set_option maxHeartbeats 4000000 in
set_option maxRecDepth 100000 in
theorem c_Mo_other_19 {m : Nat} (hmm : x.cur.m = m) (R : mcR P cb x S J F) (h8 : x.cur.n - pN P 2 x.cur.m ≤ 8) {a : Nat} (ha : a ≤ 60) (hc : ceX P sh cb Fz S F G) (H : mo_at M S J F G h) : gi_T l V y_Mo_other b_Mo_other 8 none 4 96 0 0 [.ref M, .int (nI m), .int (nI p), .int 19, .int (nI a)] n h (fun r n' h' => r = none ∧ n' = n ∧ mcP M P cb (jmpZ 19 a x) h S J F G h') := by
  refine gi_enter (by decide) (Nat.le_of_ble_eq_true rfl) ?_
  intro _ _ _ _ _ _ _ _ C hr hnm
  obtain ⟨fs, Ha, Hf⟩ := id H.1
  have ho : outM M h h := outM.rf
  subst hmm
  have fm : frM S S J J F F := frM.rf
  have h81 := R.2.2.2.1
  have ht := R.1
  have R0 : frX P x.top x.cur F := R.2.2.2.2.2.2.2.2.2.2 x.top (Nat.le_refl _)
  obtain ⟨p1, p2, p3, p4, p5, p6, p7⟩ := R0
  refine gi_iload_n (q := 1) (i := 3) C (dm_Mo_other 0 rfl) rfl rfl rfl ?_
  refine gi_tableIn (off := 276) (tgt := 277) C (dm_Mo_other 1 rfl) (by decide) (by decide) rfl (by decide) ?_
  refine gi_aload_n (q := 278) (i := 0) C (dm_Mo_other 61 rfl) rfl rfl rfl ?_
  refine gi_get (q := 281) C (dm_Mo_other 62 rfl) rfl fl_Mo_167 Ha (mo_g79 Hf) ?_
  refine gi_aload_n (q := 282) (i := 0) C (dm_Mo_other 63 rfl) rfl rfl rfl ?_
  refine gi_get (q := 285) C (dm_Mo_other 64 rfl) rfl fl_Mo_552 Ha (mo_g81 Hf) ?_
  rw [h81]
  refine gi_iconst (q := 286) (v := 1) C (dm_Mo_other 65 rfl) rfl (by decide) ?_
  refine gi_isub (q := 287) C (dm_Mo_other 66 rfl) rfl ?_
  rw [show (1 : Int32) = nI 1 from rfl, nI_sb (by omega) (by omega), show x.top + 1 - 1 = x.top by omega]
  refine gi_bipush (q := 289) (v := 60) C (dm_Mo_other 67 rfl) rfl (by decide) ?_
  refine gi_iload_n (q := 290) (i := 1) C (dm_Mo_other 68 rfl) rfl rfl rfl ?_
  refine gi_imul (q := 291) C (dm_Mo_other 69 rfl) rfl ?_
  refine gi_iload (q := 293) C (dm_Mo_other 70 rfl) rfl rfl ?_
  refine gi_iadd (q := 294) C (dm_Mo_other 71 rfl) rfl ?_
  rw [show (60 : Int32) = nI 60 from rfl, nI_ml, nI_add]
  refine gi_iast (q := 295) C (dm_Mo_other 72 rfl) rfl rfl (mo_a79 H) (inN ht (by decide)) ?_
  refine gi_genM (H.setI (p := 49) (k := 79) (by decide) rfl rfl (by decide) rfl (by omega)) (ho.up (by omega) (by omega)) (fun y H ho => ?_)
  obtain ⟨fs, Ha, Hf⟩ := id H.1
  refine gi_goto (tgt := 449) C (dm_Mo_other 73 rfl) (by decide) ?_
  refine gi_vret C hr (dm_Mo_other 152 rfl) ?_
  refine ⟨rfl, rfl, ?_⟩
  rw [nI_clamp (show x.top < 2 ^ 31 by omega)] at H
  unfold jmpZ
  rw [if_pos rfl]
  exact ⟨_, _, _, H, ho, ⟨fun _ _ => rfl, fun _ _ => rfl, fun j hj => by rw [upA_n (by omega)]⟩, R.got ha (fun j hj => upA_n hj) (fun i => by rw [upA_i, upd_is])⟩
set_option maxHeartbeats 4000000 in
set_option maxRecDepth 100000 in
theorem c_Mo_other_26 {m : Nat} (hmm : x.cur.m = m) (R : mcR P cb x S J F) (h8 : x.cur.n - pN P 2 x.cur.m ≤ 8) {a : Nat} (ha : a ≤ 60) (hn : pN P 2 x.cur.m + 1 ≤ x.cur.n) (hc : ceX P sh cb Fz S F G) (H : mo_at M S J F G h) : gi_T l V y_Mo_other b_Mo_other 8 none 4 96 0 0 [.ref M, .int (nI m), .int (nI p), .int 26, .int (nI a)] n h (fun r n' h' => r = none ∧ n' = n ∧ mcP M P cb (jmpZ 26 a x) h S J F G h') := by
  refine gi_enter (by decide) (Nat.le_of_ble_eq_true rfl) ?_
  intro _ _ _ _ _ _ _ _ C hr hnm
  obtain ⟨fs, Ha, Hf⟩ := id H.1
  have ho : outM M h h := outM.rf
  subst hmm
  have fm : frM S S J J F F := frM.rf
  have h81 := R.2.2.2.1
  have ht := R.1
  have R0 : frX P x.top x.cur F := R.2.2.2.2.2.2.2.2.2.2 x.top (Nat.le_refl _)
  obtain ⟨p1, p2, p3, p4, p5, p6, p7⟩ := R0
  refine gi_iload_n (q := 1) (i := 3) C (dm_Mo_other 0 rfl) rfl rfl rfl ?_
  refine gi_tableIn (off := 297) (tgt := 298) C (dm_Mo_other 1 rfl) (by decide) (by decide) rfl (by decide) ?_
  refine gi_aload_n (q := 299) (i := 0) C (dm_Mo_other 74 rfl) rfl rfl rfl ?_
  refine gi_callv 0 (q := 302) C (dm_Mo_other 75 rfl) rfl my_Mo_pop lk_Mo_588 im_Mo_pop rfl (c_Mo_pop R hn H) Ha rfl rfl ⟨(Nat.le_of_ble_eq_true rfl), (Nat.le_of_ble_eq_true rfl)⟩ (Nat.le_of_ble_eq_true rfl) ⟨(Nat.le_of_ble_eq_true rfl), (Nat.le_of_ble_eq_true rfl)⟩ (fun r299 n299 h299 e299 => ?_)
  obtain ⟨rfl, qn299, S1, J1, F1, H1, o1, f1, R1⟩ := e299
  rw [qn299]
  have H := H1
  obtain ⟨fs, Ha, Hf⟩ := id H.1
  have ho := ho.tr o1
  have fm := fm.tr f1
  have R := R1
  have hc := hc.fr f1
  have h81 : S1 81 = nI (x.top + 1) := R.2.2.2.1
  have p9 : mcP M P cb (popZ x) h S J F G _ := ⟨_, _, _, H, ho, fm, R⟩
  refine gi_if_ne (q := 305) (tgt := 309) C (dm_Mo_other 76 rfl) rfl (by decide) (fun c302 => ?_) (fun c302 => ?_)
  · refine gi_iconst (q := 310) (v := 0) C (dm_Mo_other 79 rfl) rfl (by decide) ?_
    refine gi_iload_n (q := 311) (i := 3) C (dm_Mo_other 80 rfl) rfl rfl rfl ?_
    refine gi_bipush (q := 313) (v := 26) C (dm_Mo_other 81 rfl) rfl (by decide) ?_
    refine gi_icmp_ne (q := 316) (tgt := 320) C (dm_Mo_other 82 rfl) rfl (by decide) (fun c313 => ?_) (fun c313 => ?_)
    · exact absurd rfl c313
    · refine gi_iconst (q := 317) (v := 1) C (dm_Mo_other 83 rfl) rfl (by decide) ?_
      refine gi_goto (tgt := 321) C (dm_Mo_other 84 rfl) (by decide) ?_
      refine gi_icmp_ne (q := 324) (tgt := 449) C (dm_Mo_other 86 rfl) rfl (by decide) (fun c321 => ?_) (fun c321 => ?_)
      · refine gi_vret C hr (dm_Mo_other 152 rfl) ?_
        first
          | exact absurd rfl c321
          | exact absurd c321 (by decide)
          | (refine ⟨rfl, rfl, ?_⟩
             unfold jmpZ
             rw [if_neg (by decide), if_pos rfl, if_neg c302]
             exact p9)
      · refine gi_aload_n (q := 325) (i := 0) C (dm_Mo_other 87 rfl) rfl rfl rfl ?_
        refine gi_get (q := 328) C (dm_Mo_other 88 rfl) rfl fl_Mo_167 Ha (mo_g79 Hf) ?_
        refine gi_aload_n (q := 329) (i := 0) C (dm_Mo_other 89 rfl) rfl rfl rfl ?_
        refine gi_get (q := 332) C (dm_Mo_other 90 rfl) rfl fl_Mo_552 Ha (mo_g81 Hf) ?_
        rw [h81]
        refine gi_iconst (q := 333) (v := 1) C (dm_Mo_other 91 rfl) rfl (by decide) ?_
        refine gi_isub (q := 334) C (dm_Mo_other 92 rfl) rfl ?_
        rw [show (1 : Int32) = nI 1 from rfl, nI_sb (by omega) (by omega), show x.top + 1 - 1 = x.top by omega]
        refine gi_bipush (q := 336) (v := 60) C (dm_Mo_other 93 rfl) rfl (by decide) ?_
        refine gi_iload_n (q := 337) (i := 1) C (dm_Mo_other 94 rfl) rfl rfl rfl ?_
        refine gi_imul (q := 338) C (dm_Mo_other 95 rfl) rfl ?_
        refine gi_iload (q := 340) C (dm_Mo_other 96 rfl) rfl rfl ?_
        refine gi_iadd (q := 341) C (dm_Mo_other 97 rfl) rfl ?_
        rw [show (60 : Int32) = nI 60 from rfl, nI_ml, nI_add]
        refine gi_iast (q := 342) C (dm_Mo_other 98 rfl) rfl rfl (mo_a79 H) (inN ht (by decide)) ?_
        refine gi_genM (H.setI (p := 49) (k := 79) (by decide) rfl rfl (by decide) rfl (by omega)) (ho.up (by omega) (by omega)) (fun y H ho => ?_)
        obtain ⟨fs, Ha, Hf⟩ := id H.1
        refine gi_goto (tgt := 449) C (dm_Mo_other 99 rfl) (by decide) ?_
        refine gi_vret C hr (dm_Mo_other 152 rfl) ?_
        first
          | exact absurd c321 (by decide)
          | (rw [nI_clamp (show x.top < 2 ^ 31 by omega)] at H
             refine ⟨rfl, rfl, ?_⟩
             unfold jmpZ
             rw [if_neg (by decide), if_pos rfl, if_pos c302]
             refine ⟨_, _, _, H, ho, fm.tr ⟨fun _ _ => rfl, fun _ _ => rfl, fun j hj => by rw [upA_n (by omega)]⟩, ?_⟩
             exact R.got (x := popZ x) ha (fun j hj => upA_n hj) (fun i => by rw [upA_i, upd_is, pop_m]; rfl))
  · refine gi_iconst (q := 306) (v := 1) C (dm_Mo_other 77 rfl) rfl (by decide) ?_
    refine gi_goto (tgt := 310) C (dm_Mo_other 78 rfl) (by decide) ?_
    refine gi_iload_n (q := 311) (i := 3) C (dm_Mo_other 80 rfl) rfl rfl rfl ?_
    refine gi_bipush (q := 313) (v := 26) C (dm_Mo_other 81 rfl) rfl (by decide) ?_
    refine gi_icmp_ne (q := 316) (tgt := 320) C (dm_Mo_other 82 rfl) rfl (by decide) (fun c313 => ?_) (fun c313 => ?_)
    · exact absurd rfl c313
    · refine gi_iconst (q := 317) (v := 1) C (dm_Mo_other 83 rfl) rfl (by decide) ?_
      refine gi_goto (tgt := 321) C (dm_Mo_other 84 rfl) (by decide) ?_
      refine gi_icmp_ne (q := 324) (tgt := 449) C (dm_Mo_other 86 rfl) rfl (by decide) (fun c321 => ?_) (fun c321 => ?_)
      · refine gi_vret C hr (dm_Mo_other 152 rfl) ?_
        first
          | exact absurd rfl c321
          | exact absurd c321 (by decide)
          | (refine ⟨rfl, rfl, ?_⟩
             unfold jmpZ
             rw [if_neg (by decide), if_pos rfl, if_neg c302]
             exact p9)
      · refine gi_aload_n (q := 325) (i := 0) C (dm_Mo_other 87 rfl) rfl rfl rfl ?_
        refine gi_get (q := 328) C (dm_Mo_other 88 rfl) rfl fl_Mo_167 Ha (mo_g79 Hf) ?_
        refine gi_aload_n (q := 329) (i := 0) C (dm_Mo_other 89 rfl) rfl rfl rfl ?_
        refine gi_get (q := 332) C (dm_Mo_other 90 rfl) rfl fl_Mo_552 Ha (mo_g81 Hf) ?_
        rw [h81]
        refine gi_iconst (q := 333) (v := 1) C (dm_Mo_other 91 rfl) rfl (by decide) ?_
        refine gi_isub (q := 334) C (dm_Mo_other 92 rfl) rfl ?_
        rw [show (1 : Int32) = nI 1 from rfl, nI_sb (by omega) (by omega), show x.top + 1 - 1 = x.top by omega]
        refine gi_bipush (q := 336) (v := 60) C (dm_Mo_other 93 rfl) rfl (by decide) ?_
        refine gi_iload_n (q := 337) (i := 1) C (dm_Mo_other 94 rfl) rfl rfl rfl ?_
        refine gi_imul (q := 338) C (dm_Mo_other 95 rfl) rfl ?_
        refine gi_iload (q := 340) C (dm_Mo_other 96 rfl) rfl rfl ?_
        refine gi_iadd (q := 341) C (dm_Mo_other 97 rfl) rfl ?_
        rw [show (60 : Int32) = nI 60 from rfl, nI_ml, nI_add]
        refine gi_iast (q := 342) C (dm_Mo_other 98 rfl) rfl rfl (mo_a79 H) (inN ht (by decide)) ?_
        refine gi_genM (H.setI (p := 49) (k := 79) (by decide) rfl rfl (by decide) rfl (by omega)) (ho.up (by omega) (by omega)) (fun y H ho => ?_)
        obtain ⟨fs, Ha, Hf⟩ := id H.1
        refine gi_goto (tgt := 449) C (dm_Mo_other 99 rfl) (by decide) ?_
        refine gi_vret C hr (dm_Mo_other 152 rfl) ?_
        first
          | exact absurd c321 (by decide)
          | (rw [nI_clamp (show x.top < 2 ^ 31 by omega)] at H
             refine ⟨rfl, rfl, ?_⟩
             unfold jmpZ
             rw [if_neg (by decide), if_pos rfl, if_pos c302]
             refine ⟨_, _, _, H, ho, fm.tr ⟨fun _ _ => rfl, fun _ _ => rfl, fun j hj => by rw [upA_n (by omega)]⟩, ?_⟩
             exact R.got (x := popZ x) ha (fun j hj => upA_n hj) (fun i => by rw [upA_i, upd_is, pop_m]; rfl))
set_option maxHeartbeats 4000000 in
set_option maxRecDepth 100000 in
theorem c_Mo_other_27 {m : Nat} (hmm : x.cur.m = m) (R : mcR P cb x S J F) (h8 : x.cur.n - pN P 2 x.cur.m ≤ 8) {a : Nat} (ha : a ≤ 60) (hn : pN P 2 x.cur.m + 1 ≤ x.cur.n) (hc : ceX P sh cb Fz S F G) (H : mo_at M S J F G h) : gi_T l V y_Mo_other b_Mo_other 8 none 4 96 0 0 [.ref M, .int (nI m), .int (nI p), .int 27, .int (nI a)] n h (fun r n' h' => r = none ∧ n' = n ∧ mcP M P cb (jmpZ 27 a x) h S J F G h') := by
  refine gi_enter (by decide) (Nat.le_of_ble_eq_true rfl) ?_
  intro _ _ _ _ _ _ _ _ C hr hnm
  obtain ⟨fs, Ha, Hf⟩ := id H.1
  have ho : outM M h h := outM.rf
  subst hmm
  have fm : frM S S J J F F := frM.rf
  have h81 := R.2.2.2.1
  have ht := R.1
  have R0 : frX P x.top x.cur F := R.2.2.2.2.2.2.2.2.2.2 x.top (Nat.le_refl _)
  obtain ⟨p1, p2, p3, p4, p5, p6, p7⟩ := R0
  refine gi_iload_n (q := 1) (i := 3) C (dm_Mo_other 0 rfl) rfl rfl rfl ?_
  refine gi_tableIn (off := 297) (tgt := 298) C (dm_Mo_other 1 rfl) (by decide) (by decide) rfl (by decide) ?_
  refine gi_aload_n (q := 299) (i := 0) C (dm_Mo_other 74 rfl) rfl rfl rfl ?_
  refine gi_callv 0 (q := 302) C (dm_Mo_other 75 rfl) rfl my_Mo_pop lk_Mo_588 im_Mo_pop rfl (c_Mo_pop R hn H) Ha rfl rfl ⟨(Nat.le_of_ble_eq_true rfl), (Nat.le_of_ble_eq_true rfl)⟩ (Nat.le_of_ble_eq_true rfl) ⟨(Nat.le_of_ble_eq_true rfl), (Nat.le_of_ble_eq_true rfl)⟩ (fun r299 n299 h299 e299 => ?_)
  obtain ⟨rfl, qn299, S1, J1, F1, H1, o1, f1, R1⟩ := e299
  rw [qn299]
  have H := H1
  obtain ⟨fs, Ha, Hf⟩ := id H.1
  have ho := ho.tr o1
  have fm := fm.tr f1
  have R := R1
  have hc := hc.fr f1
  have h81 : S1 81 = nI (x.top + 1) := R.2.2.2.1
  have p9 : mcP M P cb (popZ x) h S J F G _ := ⟨_, _, _, H, ho, fm, R⟩
  refine gi_if_ne (q := 305) (tgt := 309) C (dm_Mo_other 76 rfl) rfl (by decide) (fun c302 => ?_) (fun c302 => ?_)
  · refine gi_iconst (q := 310) (v := 0) C (dm_Mo_other 79 rfl) rfl (by decide) ?_
    refine gi_iload_n (q := 311) (i := 3) C (dm_Mo_other 80 rfl) rfl rfl rfl ?_
    refine gi_bipush (q := 313) (v := 26) C (dm_Mo_other 81 rfl) rfl (by decide) ?_
    refine gi_icmp_ne (q := 316) (tgt := 320) C (dm_Mo_other 82 rfl) rfl (by decide) (fun c313 => ?_) (fun c313 => ?_)
    · refine gi_iconst (q := 321) (v := 0) C (dm_Mo_other 85 rfl) rfl (by decide) ?_
      refine gi_icmp_ne (q := 324) (tgt := 449) C (dm_Mo_other 86 rfl) rfl (by decide) (fun c321 => ?_) (fun c321 => ?_)
      · refine gi_vret C hr (dm_Mo_other 152 rfl) ?_
        first
          | exact absurd rfl c321
          | exact absurd c321 (by decide)
          | (refine ⟨rfl, rfl, ?_⟩
             unfold jmpZ
             rw [if_neg (by decide), if_neg (by decide), if_pos rfl, if_pos c302]
             exact p9)
      · refine gi_aload_n (q := 325) (i := 0) C (dm_Mo_other 87 rfl) rfl rfl rfl ?_
        refine gi_get (q := 328) C (dm_Mo_other 88 rfl) rfl fl_Mo_167 Ha (mo_g79 Hf) ?_
        refine gi_aload_n (q := 329) (i := 0) C (dm_Mo_other 89 rfl) rfl rfl rfl ?_
        refine gi_get (q := 332) C (dm_Mo_other 90 rfl) rfl fl_Mo_552 Ha (mo_g81 Hf) ?_
        rw [h81]
        refine gi_iconst (q := 333) (v := 1) C (dm_Mo_other 91 rfl) rfl (by decide) ?_
        refine gi_isub (q := 334) C (dm_Mo_other 92 rfl) rfl ?_
        rw [show (1 : Int32) = nI 1 from rfl, nI_sb (by omega) (by omega), show x.top + 1 - 1 = x.top by omega]
        refine gi_bipush (q := 336) (v := 60) C (dm_Mo_other 93 rfl) rfl (by decide) ?_
        refine gi_iload_n (q := 337) (i := 1) C (dm_Mo_other 94 rfl) rfl rfl rfl ?_
        refine gi_imul (q := 338) C (dm_Mo_other 95 rfl) rfl ?_
        refine gi_iload (q := 340) C (dm_Mo_other 96 rfl) rfl rfl ?_
        refine gi_iadd (q := 341) C (dm_Mo_other 97 rfl) rfl ?_
        rw [show (60 : Int32) = nI 60 from rfl, nI_ml, nI_add]
        refine gi_iast (q := 342) C (dm_Mo_other 98 rfl) rfl rfl (mo_a79 H) (inN ht (by decide)) ?_
        refine gi_genM (H.setI (p := 49) (k := 79) (by decide) rfl rfl (by decide) rfl (by omega)) (ho.up (by omega) (by omega)) (fun y H ho => ?_)
        obtain ⟨fs, Ha, Hf⟩ := id H.1
        refine gi_goto (tgt := 449) C (dm_Mo_other 99 rfl) (by decide) ?_
        refine gi_vret C hr (dm_Mo_other 152 rfl) ?_
        first
          | exact absurd c321 (by decide)
          | (rw [nI_clamp (show x.top < 2 ^ 31 by omega)] at H
             refine ⟨rfl, rfl, ?_⟩
             unfold jmpZ
             rw [if_neg (by decide), if_neg (by decide), if_pos rfl, if_neg c302]
             refine ⟨_, _, _, H, ho, fm.tr ⟨fun _ _ => rfl, fun _ _ => rfl, fun j hj => by rw [upA_n (by omega)]⟩, ?_⟩
             exact R.got (x := popZ x) ha (fun j hj => upA_n hj) (fun i => by rw [upA_i, upd_is, pop_m]; rfl))
    · exact absurd c313 (by decide)
  · refine gi_iconst (q := 306) (v := 1) C (dm_Mo_other 77 rfl) rfl (by decide) ?_
    refine gi_goto (tgt := 310) C (dm_Mo_other 78 rfl) (by decide) ?_
    refine gi_iload_n (q := 311) (i := 3) C (dm_Mo_other 80 rfl) rfl rfl rfl ?_
    refine gi_bipush (q := 313) (v := 26) C (dm_Mo_other 81 rfl) rfl (by decide) ?_
    refine gi_icmp_ne (q := 316) (tgt := 320) C (dm_Mo_other 82 rfl) rfl (by decide) (fun c313 => ?_) (fun c313 => ?_)
    · refine gi_iconst (q := 321) (v := 0) C (dm_Mo_other 85 rfl) rfl (by decide) ?_
      refine gi_icmp_ne (q := 324) (tgt := 449) C (dm_Mo_other 86 rfl) rfl (by decide) (fun c321 => ?_) (fun c321 => ?_)
      · refine gi_vret C hr (dm_Mo_other 152 rfl) ?_
        first
          | exact absurd rfl c321
          | exact absurd c321 (by decide)
          | (refine ⟨rfl, rfl, ?_⟩
             unfold jmpZ
             rw [if_neg (by decide), if_neg (by decide), if_pos rfl, if_pos c302]
             exact p9)
      · refine gi_aload_n (q := 325) (i := 0) C (dm_Mo_other 87 rfl) rfl rfl rfl ?_
        refine gi_get (q := 328) C (dm_Mo_other 88 rfl) rfl fl_Mo_167 Ha (mo_g79 Hf) ?_
        refine gi_aload_n (q := 329) (i := 0) C (dm_Mo_other 89 rfl) rfl rfl rfl ?_
        refine gi_get (q := 332) C (dm_Mo_other 90 rfl) rfl fl_Mo_552 Ha (mo_g81 Hf) ?_
        rw [h81]
        refine gi_iconst (q := 333) (v := 1) C (dm_Mo_other 91 rfl) rfl (by decide) ?_
        refine gi_isub (q := 334) C (dm_Mo_other 92 rfl) rfl ?_
        rw [show (1 : Int32) = nI 1 from rfl, nI_sb (by omega) (by omega), show x.top + 1 - 1 = x.top by omega]
        refine gi_bipush (q := 336) (v := 60) C (dm_Mo_other 93 rfl) rfl (by decide) ?_
        refine gi_iload_n (q := 337) (i := 1) C (dm_Mo_other 94 rfl) rfl rfl rfl ?_
        refine gi_imul (q := 338) C (dm_Mo_other 95 rfl) rfl ?_
        refine gi_iload (q := 340) C (dm_Mo_other 96 rfl) rfl rfl ?_
        refine gi_iadd (q := 341) C (dm_Mo_other 97 rfl) rfl ?_
        rw [show (60 : Int32) = nI 60 from rfl, nI_ml, nI_add]
        refine gi_iast (q := 342) C (dm_Mo_other 98 rfl) rfl rfl (mo_a79 H) (inN ht (by decide)) ?_
        refine gi_genM (H.setI (p := 49) (k := 79) (by decide) rfl rfl (by decide) rfl (by omega)) (ho.up (by omega) (by omega)) (fun y H ho => ?_)
        obtain ⟨fs, Ha, Hf⟩ := id H.1
        refine gi_goto (tgt := 449) C (dm_Mo_other 99 rfl) (by decide) ?_
        refine gi_vret C hr (dm_Mo_other 152 rfl) ?_
        first
          | exact absurd c321 (by decide)
          | (rw [nI_clamp (show x.top < 2 ^ 31 by omega)] at H
             refine ⟨rfl, rfl, ?_⟩
             unfold jmpZ
             rw [if_neg (by decide), if_neg (by decide), if_pos rfl, if_neg c302]
             refine ⟨_, _, _, H, ho, fm.tr ⟨fun _ _ => rfl, fun _ _ => rfl, fun j hj => by rw [upA_n (by omega)]⟩, ?_⟩
             exact R.got (x := popZ x) ha (fun j hj => upA_n hj) (fun i => by rw [upA_i, upd_is, pop_m]; rfl))
    · exact absurd c313 (by decide)
set_option maxHeartbeats 4000000 in
set_option maxRecDepth 100000 in
theorem c_Mo_other_28 {m : Nat} (hmm : x.cur.m = m) (R : mcR P cb x S J F) (h8 : x.cur.n - pN P 2 x.cur.m ≤ 8) (a : Int32) {s : Nat} (hp : p < 480) (h15 : F 15 p = nI s) (s25 : s < 25) (hn : pN P 2 x.cur.m + 1 ≤ x.cur.n) (hc : ceX P sh cb Fz S F G) (H : mo_at M S J F G h) : gi_T l V y_Mo_other b_Mo_other 8 none 4 96 0 0 [.ref M, .int (nI m), .int (nI p), .int 28, .int a] n h (fun r n' h' => r = none ∧ n' = n ∧ mcP M P cb (makZ Fz s x).1 h S J F G h') := by
  refine gi_enter (by decide) (Nat.le_of_ble_eq_true rfl) ?_
  intro _ _ _ _ _ _ _ _ C hr hnm
  obtain ⟨fs, Ha, Hf⟩ := id H.1
  have ho : outM M h h := outM.rf
  subst hmm
  have fm : frM S S J J F F := frM.rf
  have h81 := R.2.2.2.1
  have ht := R.1
  have R0 : frX P x.top x.cur F := R.2.2.2.2.2.2.2.2.2.2 x.top (Nat.le_refl _)
  obtain ⟨p1, p2, p3, p4, p5, p6, p7⟩ := R0
  refine gi_iload_n (q := 1) (i := 3) C (dm_Mo_other 0 rfl) rfl rfl rfl ?_
  refine gi_tableIn (off := 344) (tgt := 345) C (dm_Mo_other 1 rfl) (by decide) (by decide) rfl (by decide) ?_
  refine gi_aload_n (q := 346) (i := 0) C (dm_Mo_other 100 rfl) rfl rfl rfl ?_
  refine gi_iload_n (q := 347) (i := 2) C (dm_Mo_other 101 rfl) rfl rfl rfl ?_
  refine gi_aload_n (q := 348) (i := 0) C (dm_Mo_other 102 rfl) rfl rfl rfl ?_
  refine gi_callv 0 (q := 351) C (dm_Mo_other 103 rfl) rfl my_Mo_pop lk_Mo_588 im_Mo_pop rfl (c_Mo_pop R hn H) Ha rfl rfl ⟨(Nat.le_of_ble_eq_true rfl), (Nat.le_of_ble_eq_true rfl)⟩ (Nat.le_of_ble_eq_true rfl) ⟨(Nat.le_of_ble_eq_true rfl), (Nat.le_of_ble_eq_true rfl)⟩ (fun r348 n348 h348 e348 => ?_)
  obtain ⟨rfl, qn348, S1, J1, F1, H1, o1, f1, R1⟩ := e348
  rw [qn348]
  have H := H1
  obtain ⟨fs, Ha, Hf⟩ := id H.1
  have ho := ho.tr o1
  have fm := fm.tr f1
  have R := R1
  have hc := hc.fr f1
  refine gi_callv 2 (q := 354) C (dm_Mo_other 104 rfl) rfl my_Mo_made lk_Mo_604 im_Mo_made rfl (c_Mo_made (s := s) (p := p) (topV x) hp (by rw [f1.2.2 15 (by decide)]; exact h15) s25 R (by rw [pop_m, pop_nn]; omega) hc H) Ha rfl rfl ⟨(Nat.le_of_ble_eq_true rfl), (Nat.le_of_ble_eq_true rfl)⟩ (Nat.le_of_ble_eq_true rfl) ⟨(Nat.le_of_ble_eq_true rfl), (Nat.le_of_ble_eq_true rfl)⟩ (fun r351 n351 h351 e351 => ?_)
  obtain ⟨rfl, qn351, p9⟩ := e351
  rw [qn351]
  have p9 := p9.tr ho fm
  refine gi_goto (tgt := 449) C (dm_Mo_other 105 rfl) (by decide) ?_
  refine gi_vret C hr (dm_Mo_other 152 rfl) ?_
  refine ⟨rfl, rfl, ?_⟩
  rw [mk_Q]
  exact p9
set_option maxHeartbeats 4000000 in
set_option maxRecDepth 100000 in
theorem c_Mo_other_29 {m : Nat} (hmm : x.cur.m = m) (R : mcR P cb x S J F) (h8 : x.cur.n - pN P 2 x.cur.m ≤ 8) (a : Int32) {r : Nat} (hn : pN P 2 x.cur.m + 1 ≤ x.cur.n) (rc : r ≤ x.hp.c) (er : topV x = nI r) (hc : ceX P sh cb Fz S F G) (H : mo_at M S J F G h) : gi_T l V y_Mo_other b_Mo_other 8 none 4 96 0 0 [.ref M, .int (nI m), .int (nI p), .int 29, .int a] n h (fun r n' h' => r = none ∧ n' = n ∧ mcP M P cb (useZ Fz 29 x).1 h S J F G h') := by
  refine gi_enter (by decide) (Nat.le_of_ble_eq_true rfl) ?_
  intro _ _ _ _ _ _ _ _ C hr hnm
  obtain ⟨fs, Ha, Hf⟩ := id H.1
  have ho : outM M h h := outM.rf
  subst hmm
  have fm : frM S S J J F F := frM.rf
  have h81 := R.2.2.2.1
  have ht := R.1
  have R0 : frX P x.top x.cur F := R.2.2.2.2.2.2.2.2.2.2 x.top (Nat.le_refl _)
  obtain ⟨p1, p2, p3, p4, p5, p6, p7⟩ := R0
  refine gi_iload_n (q := 1) (i := 3) C (dm_Mo_other 0 rfl) rfl rfl rfl ?_
  refine gi_tableIn (off := 356) (tgt := 357) C (dm_Mo_other 1 rfl) (by decide) (by decide) rfl (by decide) ?_
  refine gi_aload_n (q := 358) (i := 0) C (dm_Mo_other 106 rfl) rfl rfl rfl ?_
  refine gi_iload_n (q := 359) (i := 3) C (dm_Mo_other 107 rfl) rfl rfl rfl ?_
  refine gi_callv 1 (q := 362) C (dm_Mo_other 108 rfl) rfl my_Mo_touched lk_Mo_607 im_Mo_touched rfl (c_Mo_touched_29 R hn h8 rc er hc H) Ha rfl rfl ⟨(Nat.le_of_ble_eq_true rfl), (Nat.le_of_ble_eq_true rfl)⟩ (Nat.le_of_ble_eq_true rfl) ⟨(Nat.le_of_ble_eq_true rfl), (Nat.le_of_ble_eq_true rfl)⟩ (fun r359 n359 h359 e359 => ?_)
  obtain ⟨rfl, qn359, p9⟩ := e359
  rw [qn359]
  have p9 := p9.tr ho fm
  refine gi_goto (tgt := 449) C (dm_Mo_other 109 rfl) (by decide) ?_
  refine gi_vret C hr (dm_Mo_other 152 rfl) ?_
  exact ⟨rfl, rfl, p9⟩
set_option maxHeartbeats 4000000 in
set_option maxRecDepth 100000 in
theorem c_Mo_other_30 {m : Nat} (hmm : x.cur.m = m) (R : mcR P cb x S J F) (h8 : x.cur.n - pN P 2 x.cur.m ≤ 8) (a : Int32) {r : Nat} (hn : pN P 2 x.cur.m + 2 ≤ x.cur.n) (rc : r ≤ x.hp.c) (er : topV (popZ x) = nI r) (hc : ceX P sh cb Fz S F G) (H : mo_at M S J F G h) : gi_T l V y_Mo_other b_Mo_other 8 none 4 96 0 0 [.ref M, .int (nI m), .int (nI p), .int 30, .int a] n h (fun r n' h' => r = none ∧ n' = n ∧ mcP M P cb (useZ Fz 30 x).1 h S J F G h') := by
  refine gi_enter (by decide) (Nat.le_of_ble_eq_true rfl) ?_
  intro _ _ _ _ _ _ _ _ C hr hnm
  obtain ⟨fs, Ha, Hf⟩ := id H.1
  have ho : outM M h h := outM.rf
  subst hmm
  have fm : frM S S J J F F := frM.rf
  have h81 := R.2.2.2.1
  have ht := R.1
  have R0 : frX P x.top x.cur F := R.2.2.2.2.2.2.2.2.2.2 x.top (Nat.le_refl _)
  obtain ⟨p1, p2, p3, p4, p5, p6, p7⟩ := R0
  refine gi_iload_n (q := 1) (i := 3) C (dm_Mo_other 0 rfl) rfl rfl rfl ?_
  refine gi_tableIn (off := 356) (tgt := 357) C (dm_Mo_other 1 rfl) (by decide) (by decide) rfl (by decide) ?_
  refine gi_aload_n (q := 358) (i := 0) C (dm_Mo_other 106 rfl) rfl rfl rfl ?_
  refine gi_iload_n (q := 359) (i := 3) C (dm_Mo_other 107 rfl) rfl rfl rfl ?_
  refine gi_callv 1 (q := 362) C (dm_Mo_other 108 rfl) rfl my_Mo_touched lk_Mo_607 im_Mo_touched rfl (c_Mo_touched_30 R hn h8 rc er hc H) Ha rfl rfl ⟨(Nat.le_of_ble_eq_true rfl), (Nat.le_of_ble_eq_true rfl)⟩ (Nat.le_of_ble_eq_true rfl) ⟨(Nat.le_of_ble_eq_true rfl), (Nat.le_of_ble_eq_true rfl)⟩ (fun r359 n359 h359 e359 => ?_)
  obtain ⟨rfl, qn359, p9⟩ := e359
  rw [qn359]
  have p9 := p9.tr ho fm
  refine gi_goto (tgt := 449) C (dm_Mo_other 109 rfl) (by decide) ?_
  refine gi_vret C hr (dm_Mo_other 152 rfl) ?_
  exact ⟨rfl, rfl, p9⟩
set_option maxHeartbeats 4000000 in
set_option maxRecDepth 100000 in
theorem c_Mo_other_31 {m : Nat} (hmm : x.cur.m = m) (R : mcR P cb x S J F) (h8 : x.cur.n - pN P 2 x.cur.m ≤ 8) (a : Int32) {r : Nat} (hn : pN P 2 x.cur.m + 3 ≤ x.cur.n) (rc : r ≤ x.hp.c) (er : topV (popZ (popZ x)) = nI r) (hc : ceX P sh cb Fz S F G) (H : mo_at M S J F G h) : gi_T l V y_Mo_other b_Mo_other 8 none 4 96 0 0 [.ref M, .int (nI m), .int (nI p), .int 31, .int a] n h (fun r n' h' => r = none ∧ n' = n ∧ mcP M P cb (useZ Fz 31 x).1 h S J F G h') := by
  refine gi_enter (by decide) (Nat.le_of_ble_eq_true rfl) ?_
  intro _ _ _ _ _ _ _ _ C hr hnm
  obtain ⟨fs, Ha, Hf⟩ := id H.1
  have ho : outM M h h := outM.rf
  subst hmm
  have fm : frM S S J J F F := frM.rf
  have h81 := R.2.2.2.1
  have ht := R.1
  have R0 : frX P x.top x.cur F := R.2.2.2.2.2.2.2.2.2.2 x.top (Nat.le_refl _)
  obtain ⟨p1, p2, p3, p4, p5, p6, p7⟩ := R0
  refine gi_iload_n (q := 1) (i := 3) C (dm_Mo_other 0 rfl) rfl rfl rfl ?_
  refine gi_tableIn (off := 356) (tgt := 357) C (dm_Mo_other 1 rfl) (by decide) (by decide) rfl (by decide) ?_
  refine gi_aload_n (q := 358) (i := 0) C (dm_Mo_other 106 rfl) rfl rfl rfl ?_
  refine gi_iload_n (q := 359) (i := 3) C (dm_Mo_other 107 rfl) rfl rfl rfl ?_
  refine gi_callv 1 (q := 362) C (dm_Mo_other 108 rfl) rfl my_Mo_touched lk_Mo_607 im_Mo_touched rfl (c_Mo_touched_31 R hn h8 rc er hc H) Ha rfl rfl ⟨(Nat.le_of_ble_eq_true rfl), (Nat.le_of_ble_eq_true rfl)⟩ (Nat.le_of_ble_eq_true rfl) ⟨(Nat.le_of_ble_eq_true rfl), (Nat.le_of_ble_eq_true rfl)⟩ (fun r359 n359 h359 e359 => ?_)
  obtain ⟨rfl, qn359, p9⟩ := e359
  rw [qn359]
  have p9 := p9.tr ho fm
  refine gi_goto (tgt := 449) C (dm_Mo_other 109 rfl) (by decide) ?_
  refine gi_vret C hr (dm_Mo_other 152 rfl) ?_
  exact ⟨rfl, rfl, p9⟩
set_option maxHeartbeats 4000000 in
set_option maxRecDepth 100000 in
theorem c_Mo_other_32 {m : Nat} (hmm : x.cur.m = m) (R : mcR P cb x S J F) (h8 : x.cur.n - pN P 2 x.cur.m ≤ 8) {a : Nat} (ha : a < 8) (e1 : F 1 a = nI (pN P 1 a)) (l3 : pN P 1 a ≤ 3) (la : pN P 1 a ≤ pN P 2 a) (l6 : pN P 2 a ≤ 6) (hn : pN P 2 x.cur.m + pN P 1 a ≤ x.cur.n) (hc : ceX P sh cb Fz S F G) (H : mo_at M S J F G h) : gi_T l V y_Mo_other b_Mo_other 8 none 4 96 0 0 [.ref M, .int (nI m), .int (nI p), .int 32, .int (nI a)] n h (fun r n' h' => r = none ∧ n' = n ∧ mcP M P cb (entZ P a x).1 h S J F G h') := by
  refine gi_enter (by decide) (Nat.le_of_ble_eq_true rfl) ?_
  intro _ _ _ _ _ _ _ _ C hr hnm
  obtain ⟨fs, Ha, Hf⟩ := id H.1
  have ho : outM M h h := outM.rf
  subst hmm
  have fm : frM S S J J F F := frM.rf
  have h81 := R.2.2.2.1
  have ht := R.1
  have R0 : frX P x.top x.cur F := R.2.2.2.2.2.2.2.2.2.2 x.top (Nat.le_refl _)
  obtain ⟨p1, p2, p3, p4, p5, p6, p7⟩ := R0
  refine gi_iload_n (q := 1) (i := 3) C (dm_Mo_other 0 rfl) rfl rfl rfl ?_
  refine gi_tableIn (off := 364) (tgt := 365) C (dm_Mo_other 1 rfl) (by decide) (by decide) rfl (by decide) ?_
  refine gi_aload_n (q := 366) (i := 0) C (dm_Mo_other 110 rfl) rfl rfl rfl ?_
  refine gi_iload (q := 368) C (dm_Mo_other 111 rfl) rfl rfl ?_
  refine gi_callv 1 (q := 371) C (dm_Mo_other 112 rfl) rfl my_Mo_called lk_Mo_610 im_Mo_called rfl (c_Mo_called R ha e1 l3 la l6 hn H) Ha rfl rfl ⟨(Nat.le_of_ble_eq_true rfl), (Nat.le_of_ble_eq_true rfl)⟩ (Nat.le_of_ble_eq_true rfl) ⟨(Nat.le_of_ble_eq_true rfl), (Nat.le_of_ble_eq_true rfl)⟩ (fun r368 n368 h368 e368 => ?_)
  obtain ⟨rfl, qn368, p9⟩ := e368
  rw [qn368]
  have p9 := p9.tr ho fm
  refine gi_goto (tgt := 449) C (dm_Mo_other 113 rfl) (by decide) ?_
  refine gi_vret C hr (dm_Mo_other 152 rfl) ?_
  exact ⟨rfl, rfl, p9⟩
set_option maxHeartbeats 4000000 in
set_option maxRecDepth 100000 in
theorem c_Mo_other_33 {m : Nat} (hmm : x.cur.m = m) (R : mcR P cb x S J F) (h8 : x.cur.n - pN P 2 x.cur.m ≤ 8) (a : Int32) (r4 : F 4 x.cur.m = nI (pN P 4 x.cur.m)) (r42 : pN P 4 x.cur.m ≤ 2) (hn : pN P 4 x.cur.m ≠ 0 → pN P 2 x.cur.m + 1 ≤ x.cur.n) (hr2 : pN P 4 x.cur.m = 2 → ∃ r, r ≤ x.hp.c ∧ topV x = nI r) (h7 : pN P 4 x.cur.m ≠ 0 → 0 < x.top → (dwnZ (popZ x)).cur.n - pN P 2 (dwnZ (popZ x)).cur.m < 8) (hc : ceX P sh cb Fz S F G) (H : mo_at M S J F G h) : gi_T l V y_Mo_other b_Mo_other 8 none 4 96 0 0 [.ref M, .int (nI m), .int (nI p), .int 33, .int a] n h (fun r n' h' => r = none ∧ n' = n ∧ lvP M P cb x h S J F G h') := by
  refine gi_enter (by decide) (Nat.le_of_ble_eq_true rfl) ?_
  intro _ _ _ _ _ _ _ _ C hr hnm
  obtain ⟨fs, Ha, Hf⟩ := id H.1
  have ho : outM M h h := outM.rf
  subst hmm
  have fm : frM S S J J F F := frM.rf
  have h81 := R.2.2.2.1
  have ht := R.1
  have R0 : frX P x.top x.cur F := R.2.2.2.2.2.2.2.2.2.2 x.top (Nat.le_refl _)
  obtain ⟨p1, p2, p3, p4, p5, p6, p7⟩ := R0
  refine gi_iload_n (q := 1) (i := 3) C (dm_Mo_other 0 rfl) rfl rfl rfl ?_
  refine gi_tableIn (off := 373) (tgt := 374) C (dm_Mo_other 1 rfl) (by decide) (by decide) rfl (by decide) ?_
  refine gi_aload_n (q := 375) (i := 0) C (dm_Mo_other 114 rfl) rfl rfl rfl ?_
  refine gi_iload_n (q := 376) (i := 1) C (dm_Mo_other 115 rfl) rfl rfl rfl ?_
  refine gi_callv 1 (q := 379) C (dm_Mo_other 116 rfl) rfl my_Mo_left lk_Mo_613 im_Mo_left rfl (c_Mo_left R r4 r42 hn hr2 h7 H) Ha rfl rfl ⟨(Nat.le_of_ble_eq_true rfl), (Nat.le_of_ble_eq_true rfl)⟩ (Nat.le_of_ble_eq_true rfl) ⟨(Nat.le_of_ble_eq_true rfl), (Nat.le_of_ble_eq_true rfl)⟩ (fun r376 n376 h376 e376 => ?_)
  obtain ⟨rfl, qn376, p9⟩ := e376
  rw [qn376]
  refine gi_goto (tgt := 449) C (dm_Mo_other 117 rfl) (by decide) ?_
  refine gi_vret C hr (dm_Mo_other 152 rfl) ?_
  exact ⟨rfl, rfl, p9⟩
set_option maxHeartbeats 4000000 in
set_option maxRecDepth 100000 in
theorem c_Mo_other_34 {m : Nat} (hmm : x.cur.m = m) (R : mcR P cb x S J F) (h8 : x.cur.n - pN P 2 x.cur.m ≤ 8) {a : Nat} (ha : a < 4) (hn : x.cur.n - pN P 2 x.cur.m < 8) (hc : ceX P sh cb Fz S F G) (H : mo_at M S J F G h) : gi_T l V y_Mo_other b_Mo_other 8 none 4 96 0 0 [.ref M, .int (nI m), .int (nI p), .int 34, .int (nI a)] n h (fun r n' h' => r = none ∧ n' = n ∧ mcP M P cb (fldZ Fz 34 a x) h S J F G h') := by
  refine gi_enter (by decide) (Nat.le_of_ble_eq_true rfl) ?_
  intro _ _ _ _ _ _ _ _ C hr hnm
  obtain ⟨fs, Ha, Hf⟩ := id H.1
  have ho : outM M h h := outM.rf
  subst hmm
  have fm : frM S S J J F F := frM.rf
  have h81 := R.2.2.2.1
  have ht := R.1
  have R0 : frX P x.top x.cur F := R.2.2.2.2.2.2.2.2.2.2 x.top (Nat.le_refl _)
  obtain ⟨p1, p2, p3, p4, p5, p6, p7⟩ := R0
  refine gi_iload_n (q := 1) (i := 3) C (dm_Mo_other 0 rfl) rfl rfl rfl ?_
  refine gi_tableIn (off := 381) (tgt := 382) C (dm_Mo_other 1 rfl) (by decide) (by decide) rfl (by decide) ?_
  refine gi_aload_n (q := 383) (i := 0) C (dm_Mo_other 118 rfl) rfl rfl rfl ?_
  refine gi_aload_n (q := 384) (i := 0) C (dm_Mo_other 119 rfl) rfl rfl rfl ?_
  refine gi_get (q := 387) C (dm_Mo_other 120 rfl) rfl fl_Mo_161 Ha (mo_g77 Hf) ?_
  refine gi_iload (q := 389) C (dm_Mo_other 121 rfl) rfl rfl ?_
  refine gi_iald (q := 390) C (dm_Mo_other 122 rfl) rfl rfl (mo_a77 H) (inN ha (by decide)) ?_
  rw [nI_clamp (show a < 2 ^ 31 by omega), R.2.2.1 a ha]
  refine gi_callv 1 (q := 393) C (dm_Mo_other 123 rfl) rfl my_Mo_push lk_Mo_594 im_Mo_push rfl (c_Mo_push (x.fd a) R hn H) Ha rfl rfl ⟨(Nat.le_of_ble_eq_true rfl), (Nat.le_of_ble_eq_true rfl)⟩ (Nat.le_of_ble_eq_true rfl) ⟨(Nat.le_of_ble_eq_true rfl), (Nat.le_of_ble_eq_true rfl)⟩ (fun r390 n390 h390 e390 => ?_)
  obtain ⟨rfl, qn390, p9⟩ := e390
  rw [qn390]
  have p9 := p9.tr ho fm
  refine gi_goto (tgt := 449) C (dm_Mo_other 124 rfl) (by decide) ?_
  refine gi_vret C hr (dm_Mo_other 152 rfl) ?_
  refine ⟨rfl, rfl, ?_⟩
  unfold fldZ
  rw [if_pos rfl]
  exact p9
set_option maxHeartbeats 4000000 in
set_option maxRecDepth 100000 in
theorem c_Mo_other_35 {m : Nat} (hmm : x.cur.m = m) (R : mcR P cb x S J F) (h8 : x.cur.n - pN P 2 x.cur.m ≤ 8) {a : Nat} (ha : a < 4) (hn : pN P 2 x.cur.m + 1 ≤ x.cur.n) (hc : ceX P sh cb Fz S F G) (H : mo_at M S J F G h) : gi_T l V y_Mo_other b_Mo_other 8 none 4 96 0 0 [.ref M, .int (nI m), .int (nI p), .int 35, .int (nI a)] n h (fun r n' h' => r = none ∧ n' = n ∧ mcP M P cb (fldZ Fz 35 a x) h S J F G h') := by
  refine gi_enter (by decide) (Nat.le_of_ble_eq_true rfl) ?_
  intro _ _ _ _ _ _ _ _ C hr hnm
  obtain ⟨fs, Ha, Hf⟩ := id H.1
  have ho : outM M h h := outM.rf
  subst hmm
  have fm : frM S S J J F F := frM.rf
  have h81 := R.2.2.2.1
  have ht := R.1
  have R0 : frX P x.top x.cur F := R.2.2.2.2.2.2.2.2.2.2 x.top (Nat.le_refl _)
  obtain ⟨p1, p2, p3, p4, p5, p6, p7⟩ := R0
  refine gi_iload_n (q := 1) (i := 3) C (dm_Mo_other 0 rfl) rfl rfl rfl ?_
  refine gi_tableOut (tgt := 396) C (dm_Mo_other 1 rfl) (lo := 0) (hi := 34) (Or.inr (by decide)) (by decide) ?_
  refine gi_aload_n (q := 397) (i := 0) C (dm_Mo_other 125 rfl) rfl rfl rfl ?_
  refine gi_get (q := 400) C (dm_Mo_other 126 rfl) rfl fl_Mo_161 Ha (mo_g77 Hf) ?_
  refine gi_iload (q := 402) C (dm_Mo_other 127 rfl) rfl rfl ?_
  refine gi_aload_n (q := 403) (i := 0) C (dm_Mo_other 128 rfl) rfl rfl rfl ?_
  refine gi_callv 0 (q := 406) C (dm_Mo_other 129 rfl) rfl my_Mo_pop lk_Mo_588 im_Mo_pop rfl (c_Mo_pop R hn H) Ha rfl rfl ⟨(Nat.le_of_ble_eq_true rfl), (Nat.le_of_ble_eq_true rfl)⟩ (Nat.le_of_ble_eq_true rfl) ⟨(Nat.le_of_ble_eq_true rfl), (Nat.le_of_ble_eq_true rfl)⟩ (fun r403 n403 h403 e403 => ?_)
  obtain ⟨rfl, qn403, S1, J1, F1, H1, o1, f1, R1⟩ := e403
  rw [qn403]
  have H := H1
  obtain ⟨fs, Ha, Hf⟩ := id H.1
  have ho := ho.tr o1
  have fm := fm.tr f1
  have R := R1
  have hc := hc.fr f1
  refine gi_iast (q := 407) C (dm_Mo_other 130 rfl) rfl rfl (mo_a77 H) (inN ha (by decide)) ?_
  refine gi_genM (H.setI (p := 47) (k := 77) (by decide) rfl rfl (by decide) rfl (by omega)) (ho.up (by omega) (by omega)) (fun y H ho => ?_)
  obtain ⟨fs, Ha, Hf⟩ := id H.1
  refine gi_aload_n (q := 408) (i := 0) C (dm_Mo_other 131 rfl) rfl rfl rfl ?_
  refine gi_aload_n (q := 409) (i := 0) C (dm_Mo_other 132 rfl) rfl rfl rfl ?_
  refine gi_get (q := 412) C (dm_Mo_other 133 rfl) rfl fl_Mo_546 Ha (mo_g88 Hf) ?_
  refine gi_if_ne (q := 415) (tgt := 441) C (dm_Mo_other 134 rfl) rfl (by decide) (fun c412 => ?_) (fun c412 => ?_)
  · refine gi_iconst (q := 442) (v := 1) C (dm_Mo_other 148 rfl) rfl (by decide) ?_
    refine gi_goto (tgt := 446) C (dm_Mo_other 149 rfl) (by decide) ?_
    refine gi_put (q := 449) C (dm_Mo_other 151 rfl) rfl fl_Mo_546 fp_Mo_88 Ha (by rw [Hf.1]; decide) rfl rfl ?_
    refine gi_genM (H.putI Ha Hf (by decide) rfl) (ho.up (by omega) (by omega)) (fun y H ho => ?_)
    obtain ⟨fs, Ha, Hf⟩ := id H.1
    refine gi_vret C hr (dm_Mo_other 152 rfl) ?_
    refine ⟨rfl, rfl, ?_⟩
    unfold fldZ
    rw [if_neg (by decide)]
    rw [nI_clamp (show a < 2 ^ 31 by omega)] at H
    refine ⟨_, _, _, H, ho, fm.tr ⟨fun b hb => by unfold upS; rw [if_neg (by omega)], fun _ _ => rfl, fun b hb => by rw [upA_n (by omega)]⟩, ?_⟩
    refine R.fld (x := popZ x) ⟨fun cq => ?_, fun cq => ?_⟩ (fun b hb => by unfold upS; rw [if_neg hb]) (fun b hb => upA_n hb) (fun q => by rw [upA_i, upd_is])
    · have r9 := R.2.2.2.2.2.2.2.2.1 cq
      change S1 88 = bI x.as at r9
      show upS S1 88 _ 88 = bI (x.as || _)
      unfold upS
      rw [if_pos rfl]
      first
        | (have a1 : x.as = true := bI_t (by rw [← r9]; exact c412)
           rw [a1]
           rfl)
        | (have a1 : x.as = false := bI_fa (by rw [← r9]; exact c412)
           rw [a1, Bool.false_or, bI_t c438]
           rfl)
        | (have a1 : x.as = false := bI_fa (by rw [← r9]; exact c412)
           rw [a1, Bool.false_or, bI_fa c438]
           rfl)
        | (exfalso; rw [hc.1, cq] at c419; exact absurd c419 (by decide))
    · have r9 := R.2.2.2.2.2.2.2.2.2.1 cq
      first
        | rfl
        | (exfalso; exact c412 r9)
        | cases cq
  · refine gi_aload_n (q := 416) (i := 0) C (dm_Mo_other 135 rfl) rfl rfl rfl ?_
    refine gi_get (q := 419) C (dm_Mo_other 136 rfl) rfl fl_Mo_183 Ha (mo_g9 Hf) ?_
    refine gi_if_eq (q := 422) (tgt := 445) C (dm_Mo_other 137 rfl) rfl (by decide) (fun c419 => ?_) (fun c419 => ?_)
    · refine gi_iconst (q := 446) (v := 0) C (dm_Mo_other 150 rfl) rfl (by decide) ?_
      refine gi_put (q := 449) C (dm_Mo_other 151 rfl) rfl fl_Mo_546 fp_Mo_88 Ha (by rw [Hf.1]; decide) rfl rfl ?_
      refine gi_genM (H.putI Ha Hf (by decide) rfl) (ho.up (by omega) (by omega)) (fun y H ho => ?_)
      obtain ⟨fs, Ha, Hf⟩ := id H.1
      refine gi_vret C hr (dm_Mo_other 152 rfl) ?_
      refine ⟨rfl, rfl, ?_⟩
      unfold fldZ
      rw [if_neg (by decide)]
      rw [nI_clamp (show a < 2 ^ 31 by omega)] at H
      refine ⟨_, _, _, H, ho, fm.tr ⟨fun b hb => by unfold upS; rw [if_neg (by omega)], fun _ _ => rfl, fun b hb => by rw [upA_n (by omega)]⟩, ?_⟩
      refine R.fld (x := popZ x) ⟨fun cq => ?_, fun cq => ?_⟩ (fun b hb => by unfold upS; rw [if_neg hb]) (fun b hb => upA_n hb) (fun q => by rw [upA_i, upd_is])
      · have r9 := R.2.2.2.2.2.2.2.2.1 cq
        change S1 88 = bI x.as at r9
        show upS S1 88 _ 88 = bI (x.as || _)
        unfold upS
        rw [if_pos rfl]
        first
          | (have a1 : x.as = true := bI_t (by rw [← r9]; exact c412)
             rw [a1]
             rfl)
          | (have a1 : x.as = false := bI_fa (by rw [← r9]; exact c412)
             rw [a1, Bool.false_or, bI_t c438]
             rfl)
          | (have a1 : x.as = false := bI_fa (by rw [← r9]; exact c412)
             rw [a1, Bool.false_or, bI_fa c438]
             rfl)
          | (exfalso; rw [hc.1, cq] at c419; exact absurd c419 (by decide))
      · have r9 := R.2.2.2.2.2.2.2.2.2.1 cq
        first
          | rfl
          | (exfalso; exact c412 r9)
          | cases cq
    · have cbt : cb = true := by
        cases cb with
        | true => rfl
        | false => exact absurd hc.1 c419
      subst cbt
      have cf := (hc.of (F' := _) (S' := S1) (fun b hb => upA_n (F := F1) (k := 77) (g := upd (F1 77) (nI a).toNatClampNeg (topV x)) (show b ≠ 77 by omega)) rfl).2 rfl
      refine gi_aload_n (q := 423) (i := 0) C (dm_Mo_other 138 rfl) rfl rfl rfl ?_
      refine gi_bipush (q := 425) (v := 64) C (dm_Mo_other 139 rfl) rfl (by decide) ?_
      refine gi_iload (q := 427) C (dm_Mo_other 140 rfl) rfl rfl ?_
      refine gi_iadd (q := 428) C (dm_Mo_other 141 rfl) rfl ?_
      rw [show (64 : Int32) = nI 64 from rfl, nI_add]
      refine gi_aload_n (q := 429) (i := 0) C (dm_Mo_other 142 rfl) rfl rfl rfl ?_
      refine gi_get (q := 432) C (dm_Mo_other 143 rfl) rfl fl_Mo_161 Ha (mo_g77 Hf) ?_
      refine gi_iload (q := 434) C (dm_Mo_other 144 rfl) rfl rfl ?_
      refine gi_iald (q := 435) C (dm_Mo_other 145 rfl) rfl rfl (mo_a77 H) (inN ha (by decide)) ?_
      rw [upA_i, upd_is, if_pos rfl]
      refine gi_callv 2 (q := 438) C (dm_Mo_other 146 rfl) rfl my_Mo_isToldBy lk_Mo_549 im_Mo_isToldBy rfl (c_Mo_isToldX (t := 530 + a) (topV x) (by omega) (by omega) (tix_f ha) cf H) Ha rfl rfl ⟨(Nat.le_of_ble_eq_true rfl), (Nat.le_of_ble_eq_true rfl)⟩ (Nat.le_of_ble_eq_true rfl) ⟨(Nat.le_of_ble_eq_true rfl), (Nat.le_of_ble_eq_true rfl)⟩ (fun r435 n435 h435 e435 => ?_)
      obtain ⟨rfl, q435, u435⟩ := e435
      rw [q435, u435]
      refine gi_if_ne (q := 441) (tgt := 445) C (dm_Mo_other 147 rfl) rfl (by decide) (fun c438 => ?_) (fun c438 => ?_)
      · refine gi_iconst (q := 446) (v := 0) C (dm_Mo_other 150 rfl) rfl (by decide) ?_
        refine gi_put (q := 449) C (dm_Mo_other 151 rfl) rfl fl_Mo_546 fp_Mo_88 Ha (by rw [Hf.1]; decide) rfl rfl ?_
        refine gi_genM (H.putI Ha Hf (by decide) rfl) (ho.up (by omega) (by omega)) (fun y H ho => ?_)
        obtain ⟨fs, Ha, Hf⟩ := id H.1
        refine gi_vret C hr (dm_Mo_other 152 rfl) ?_
        refine ⟨rfl, rfl, ?_⟩
        unfold fldZ
        rw [if_neg (by decide)]
        rw [nI_clamp (show a < 2 ^ 31 by omega)] at H
        refine ⟨_, _, _, H, ho, fm.tr ⟨fun b hb => by unfold upS; rw [if_neg (by omega)], fun _ _ => rfl, fun b hb => by rw [upA_n (by omega)]⟩, ?_⟩
        refine R.fld (x := popZ x) ⟨fun cq => ?_, fun cq => ?_⟩ (fun b hb => by unfold upS; rw [if_neg hb]) (fun b hb => upA_n hb) (fun q => by rw [upA_i, upd_is])
        · have r9 := R.2.2.2.2.2.2.2.2.1 cq
          change S1 88 = bI x.as at r9
          show upS S1 88 _ 88 = bI (x.as || _)
          unfold upS
          rw [if_pos rfl]
          first
            | (have a1 : x.as = true := bI_t (by rw [← r9]; exact c412)
               rw [a1]
               rfl)
            | (have a1 : x.as = false := bI_fa (by rw [← r9]; exact c412)
               rw [a1, Bool.false_or, bI_t c438]
               rfl)
            | (have a1 : x.as = false := bI_fa (by rw [← r9]; exact c412)
               rw [a1, Bool.false_or, bI_fa c438]
               rfl)
            | (exfalso; rw [hc.1, cq] at c419; exact absurd c419 (by decide))
        · have r9 := R.2.2.2.2.2.2.2.2.2.1 cq
          first
            | rfl
            | (exfalso; exact c412 r9)
            | cases cq
      · refine gi_iconst (q := 442) (v := 1) C (dm_Mo_other 148 rfl) rfl (by decide) ?_
        refine gi_goto (tgt := 446) C (dm_Mo_other 149 rfl) (by decide) ?_
        refine gi_put (q := 449) C (dm_Mo_other 151 rfl) rfl fl_Mo_546 fp_Mo_88 Ha (by rw [Hf.1]; decide) rfl rfl ?_
        refine gi_genM (H.putI Ha Hf (by decide) rfl) (ho.up (by omega) (by omega)) (fun y H ho => ?_)
        obtain ⟨fs, Ha, Hf⟩ := id H.1
        refine gi_vret C hr (dm_Mo_other 152 rfl) ?_
        refine ⟨rfl, rfl, ?_⟩
        unfold fldZ
        rw [if_neg (by decide)]
        rw [nI_clamp (show a < 2 ^ 31 by omega)] at H
        refine ⟨_, _, _, H, ho, fm.tr ⟨fun b hb => by unfold upS; rw [if_neg (by omega)], fun _ _ => rfl, fun b hb => by rw [upA_n (by omega)]⟩, ?_⟩
        refine R.fld (x := popZ x) ⟨fun cq => ?_, fun cq => ?_⟩ (fun b hb => by unfold upS; rw [if_neg hb]) (fun b hb => upA_n hb) (fun q => by rw [upA_i, upd_is])
        · have r9 := R.2.2.2.2.2.2.2.2.1 cq
          change S1 88 = bI x.as at r9
          show upS S1 88 _ 88 = bI (x.as || _)
          unfold upS
          rw [if_pos rfl]
          first
            | (have a1 : x.as = true := bI_t (by rw [← r9]; exact c412)
               rw [a1]
               rfl)
            | (have a1 : x.as = false := bI_fa (by rw [← r9]; exact c412)
               rw [a1, Bool.false_or, bI_t c438]
               rfl)
            | (have a1 : x.as = false := bI_fa (by rw [← r9]; exact c412)
               rw [a1, Bool.false_or, bI_fa c438]
               rfl)
            | (exfalso; rw [hc.1, cq] at c419; exact absurd c419 (by decide))
        · have r9 := R.2.2.2.2.2.2.2.2.2.1 cq
          first
            | rfl
            | (exfalso; exact c412 r9)
            | cases cq
end RM5
