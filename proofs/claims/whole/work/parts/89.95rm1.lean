-- needs: 89.94
section RM1
variable {l : Launch} {V : gi_V} {n : Nat} {h h' : gi_H} {M k : Nat} {P : Pm} {sh : Nat → Option Sh} {S S' : Nat → Int32} {J J' : Nat → Int64} {F F' : Nat → Nat → Int32} {G : Nat → Nat → Int64} {Fz : Fa} {cb : Bool} {z : Mc}
/-- a frame in the reference: its place, its top, its slots -/
def frX (P : Pm) (t : Nat) (f : Fr) (F : Nat → Nat → Int32) : Prop := F 79 t = nI (60 * f.m + f.i) ∧ F 80 t = nI (f.n - pN P 2 f.m + 6) ∧ pN P 2 f.m ≤ f.n ∧ pN P 2 f.m ≤ 6 ∧ f.n - pN P 2 f.m ≤ 8 ∧ (f.m < 8 ∧ f.i ≤ 60) ∧ ∀ j, j < f.n → F 78 (14 * t + sl (pN P 2 f.m) j) = f.s j
/-- what lies in the heap of a run -/
def hpX (H : Hp) (S : Nat → Int32) (F : Nat → Nat → Int32) : Prop := hpO H ∧ S 75 = nI H.c ∧ S 76 = nI H.u ∧ (∀ r, 1 ≤ r → r ≤ H.c → F 72 (r - 1) = nI (H.st r) ∧ F 73 (r - 1) = nI (H.ln r) ∧ F 74 (r - 1) = nI (H.si r)) ∧ ∀ i, i < H.u → F 71 i = H.ce i
def mcR (P : Pm) (cb : Bool) (z : Mc) (S : Nat → Int32) (J : Nat → Int64) (F : Nat → Nat → Int32) : Prop := z.top < 16 ∧ hpX z.hp S F ∧ (∀ j, j < 4 → F 77 j = z.fd j) ∧ S 81 = nI (z.top + 1) ∧ S 82 = z.wr ∧ S 85 = nI z.dp ∧ z.dp ≤ 16 ∧ J 86 = z.gv ∧ (cb = true → S 88 = bI z.as) ∧ (cb = false → S 88 = 0) ∧ ∀ t, t ≤ z.top → frX P t (z.fr t) F
/-- what a run leaves as it was -/
def frM (S S' : Nat → Int32) (J J' : Nat → Int64) (F F' : Nat → Nat → Int32) : Prop := (∀ j, j < 75 ∨ j = 83 ∨ j = 84 ∨ j = 86 ∨ j = 87 → S' j = S j) ∧ (∀ j, j ≠ 86 → J' j = J j) ∧ ∀ j, j < 71 → F' j = F j
theorem frM.rf : frM S S J J F F := ⟨fun _ _ => rfl, fun _ _ => rfl, fun _ _ => rfl⟩
theorem frM.tr {S2 : Nat → Int32} {J2 : Nat → Int64} {F2 : Nat → Nat → Int32} (a : frM S S' J J' F F') (b : frM S' S2 J' J2 F' F2) : frM S S2 J J2 F F2 := ⟨fun j h => (b.1 j h).trans (a.1 j h), fun j h => (b.2.1 j h).trans (a.2.1 j h), fun j h => (b.2.2 j h).trans (a.2.2 j h)⟩
def mcP (M : Nat) (P : Pm) (cb : Bool) (z : Mc) (h : gi_H) (S : Nat → Int32) (J : Nat → Int64) (F : Nat → Nat → Int32) (G : Nat → Nat → Int64) (h' : gi_H) : Prop := ∃ S' J' F', mo_at M S' J' F' G h' ∧ outM M h h' ∧ frM S S' J J' F F' ∧ mcR P cb z S' J' F'
theorem upO_up {α : Type} {f : Nat → α} {i : Nat} {v : α} : upO f i v i = v := upO_self
/-- the frame on top is another one -/
theorem mcR.setF {f : Fr} (R : mcR P cb z S J F) (e : ∀ j, j ≠ 78 → j ≠ 79 → j ≠ 80 → F' j = F j) (e78 : ∀ i, (i < 14 * z.top ∨ 14 * z.top + 14 ≤ i) → F' 78 i = F 78 i) (e79 : ∀ t, t ≠ z.top → F' 79 t = F 79 t ∧ F' 80 t = F 80 t) (hf : frX P z.top f F') : mcR P cb (setF z f) S J F' := by
  obtain ⟨r1, ⟨q1, q2, q3, q4, q5⟩, r3, r4, r5, r6, r7, r8, r9, r9', r10⟩ := R
  have x71 := e 71 (by decide) (by decide) (by decide)
  have x72 := e 72 (by decide) (by decide) (by decide)
  have x73 := e 73 (by decide) (by decide) (by decide)
  have x74 := e 74 (by decide) (by decide) (by decide)
  have x77 := e 77 (by decide) (by decide) (by decide)
  refine ⟨r1, ⟨q1, q2, q3, ?_, ?_⟩, ?_, r4, r5, r6, r7, r8, r9, r9', fun t ht => ?_⟩
  · rw [x72, x73, x74]; exact q4
  · rw [x71]; exact q5
  · rw [x77]; exact r3
  · by_cases q : t = z.top
    · subst q
      show frX P z.top (upO z.fr z.top f z.top) F'
      rw [upO_self]
      exact hf
    · show frX P t (upO z.fr z.top f t) F'
      rw [upO_ne q]
      have ht' : t ≤ z.top := ht
      obtain ⟨p1, p2, p3, p4, p5, p6, p7⟩ := r10 t ht'
      obtain ⟨y1, y2⟩ := e79 t q
      refine ⟨by rw [y1]; exact p1, by rw [y2]; exact p2, p3, p4, p5, p6, fun j hj => ?_⟩
      have l14 := sl_14 p4 p5 hj
      rw [e78 _ (by omega)]
      exact p7 j hj
set_option maxHeartbeats 4000000 in
set_option maxRecDepth 100000 in
theorem c_Mo_f {t i : Nat} (h81 : S 81 = nI (t + 1)) (ht : t < 16) (hi : i < 100) (H : mo_at M S J F G h) : gi_T l V y_Mo_f b_Mo_f 2 (some .int) 0 0 0 0 [.ref M, .int (nI i)] n h (gi_is (some (.int (nI (14 * t + i)))) n h) := by
  refine gi_enter (by decide) (Nat.le_of_ble_eq_true rfl) ?_
  intro _ _ _ _ _ _ _ _ C hr hnm
  obtain ⟨fs, Ha, Hf⟩ := id H.1
  have ho : outM M h h := outM.rf
  refine gi_bipush (q := 2) (v := 14) C (dm_Mo_f 0 rfl) rfl (by decide) ?_
  refine gi_aload_n (q := 3) (i := 0) C (dm_Mo_f 1 rfl) rfl rfl rfl ?_
  refine gi_get (q := 6) C (dm_Mo_f 2 rfl) rfl fl_Mo_552 Ha (mo_g81 Hf) ?_
  rw [h81]
  refine gi_iconst (q := 7) (v := 1) C (dm_Mo_f 3 rfl) rfl (by decide) ?_
  refine gi_isub (q := 8) C (dm_Mo_f 4 rfl) rfl ?_
  rw [show (1 : Int32) = nI 1 from rfl, nI_sb (by omega) (by omega), show t + 1 - 1 = t by omega]
  refine gi_imul (q := 9) C (dm_Mo_f 5 rfl) rfl ?_
  refine gi_iload_n (q := 10) (i := 1) C (dm_Mo_f 6 rfl) rfl rfl rfl ?_
  refine gi_iadd (q := 11) C (dm_Mo_f 7 rfl) rfl ?_
  rw [show (14 : Int32) = nI 14 from rfl, nI_ml, nI_add]
  refine gi_iret C hr (dm_Mo_f 8 rfl) ?_
  exact ⟨rfl, rfl, rfl⟩
set_option maxHeartbeats 4000000 in
set_option maxRecDepth 100000 in
theorem c_Mo_pop (R : mcR P cb z S J F) (hn : pN P 2 z.cur.m + 1 ≤ z.cur.n) (H : mo_at M S J F G h) : gi_T l V y_Mo_pop b_Mo_pop 1 (some .int) 1 21 0 0 [.ref M] n h (fun v n' h' => v = some (.int (topV z)) ∧ n' = n ∧ mcP M P cb (popZ z) h S J F G h') := by
  refine gi_enter (by decide) (Nat.le_of_ble_eq_true rfl) ?_
  intro _ _ _ _ _ _ _ _ C hr hnm
  obtain ⟨fs, Ha, Hf⟩ := id H.1
  have ho : outM M h h := outM.rf
  have h81 := R.2.2.2.1
  have ht := R.1
  have R0 : frX P z.top z.cur F := R.2.2.2.2.2.2.2.2.2.2 z.top (Nat.le_refl _)
  obtain ⟨p1, p2, p3, p4, p5, p6, p7⟩ := R0
  refine gi_aload_n (q := 1) (i := 0) C (dm_Mo_pop 0 rfl) rfl rfl rfl ?_
  refine gi_get (q := 4) C (dm_Mo_pop 1 rfl) rfl fl_Mo_170 Ha (mo_g80 Hf) ?_
  refine gi_aload_n (q := 5) (i := 0) C (dm_Mo_pop 2 rfl) rfl rfl rfl ?_
  refine gi_get (q := 8) C (dm_Mo_pop 3 rfl) rfl fl_Mo_552 Ha (mo_g81 Hf) ?_
  rw [h81]
  refine gi_iconst (q := 9) (v := 1) C (dm_Mo_pop 4 rfl) rfl (by decide) ?_
  refine gi_isub (q := 10) C (dm_Mo_pop 5 rfl) rfl ?_
  rw [show (1 : Int32) = nI 1 from rfl, nI_sb (by omega) (by omega), show z.top + 1 - 1 = z.top by omega]
  refine gi_dup2_11 (q := 11) C (dm_Mo_pop 6 rfl) rfl rfl rfl ?_
  refine gi_iald (q := 12) C (dm_Mo_pop 7 rfl) rfl rfl (mo_a80 H) (inN ht (by decide)) ?_
  rw [nI_clamp (show z.top < 2 ^ 31 by omega), p2]
  refine gi_iconst (q := 13) (v := 1) C (dm_Mo_pop 8 rfl) rfl (by decide) ?_
  refine gi_isub (q := 14) C (dm_Mo_pop 9 rfl) rfl ?_
  rw [show (1 : Int32) = nI 1 from rfl, nI_sb (by omega) (by omega)]
  refine gi_iast (q := 15) C (dm_Mo_pop 10 rfl) rfl rfl (mo_a80 H) (inN ht (by decide)) ?_
  refine gi_genM (H.setI (p := 50) (k := 80) (by decide) rfl rfl (by decide) rfl (by omega)) (ho.up (by omega) (by omega)) (fun y H ho => ?_)
  obtain ⟨fs, Ha, Hf⟩ := id H.1
  skip
  refine gi_aload_n (q := 16) (i := 0) C (dm_Mo_pop 11 rfl) rfl rfl rfl ?_
  refine gi_get (q := 19) C (dm_Mo_pop 12 rfl) rfl fl_Mo_164 Ha (mo_g78 Hf) ?_
  refine gi_aload_n (q := 20) (i := 0) C (dm_Mo_pop 13 rfl) rfl rfl rfl ?_
  refine gi_aload_n (q := 21) (i := 0) C (dm_Mo_pop 14 rfl) rfl rfl rfl ?_
  refine gi_get (q := 24) C (dm_Mo_pop 15 rfl) rfl fl_Mo_170 Ha (mo_g80 Hf) ?_
  refine gi_aload_n (q := 25) (i := 0) C (dm_Mo_pop 16 rfl) rfl rfl rfl ?_
  refine gi_get (q := 28) C (dm_Mo_pop 17 rfl) rfl fl_Mo_552 Ha (mo_g81 Hf) ?_
  rw [h81]
  refine gi_iconst (q := 29) (v := 1) C (dm_Mo_pop 18 rfl) rfl (by decide) ?_
  refine gi_isub (q := 30) C (dm_Mo_pop 19 rfl) rfl ?_
  rw [show (1 : Int32) = nI 1 from rfl, nI_sb (by omega) (by omega), show z.top + 1 - 1 = z.top by omega]
  refine gi_iald (q := 31) C (dm_Mo_pop 20 rfl) rfl rfl (mo_a80 H) (inN ht (by decide)) ?_
  rw [nI_clamp (show z.top < 2 ^ 31 by omega), upA_i, upd_is, if_pos rfl, show z.cur.n - pN P 2 z.cur.m + 6 - 1 = z.cur.n - 1 - pN P 2 z.cur.m + 6 by omega]
  refine gi_callv 1 (q := 34) C (dm_Mo_pop 21 rfl) rfl my_Mo_f lk_Mo_558 im_Mo_f rfl (c_Mo_f h81 ht (show z.cur.n - 1 - pN P 2 z.cur.m + 6 < 100 by omega) H) Ha rfl rfl ⟨(Nat.le_of_ble_eq_true rfl), (Nat.le_of_ble_eq_true rfl)⟩ (Nat.le_of_ble_eq_true rfl) ⟨(Nat.le_of_ble_eq_true rfl), (Nat.le_of_ble_eq_true rfl)⟩ (fun r31 n31 h31 e31 => ?_)
  obtain ⟨rfl, q31, u31⟩ := e31
  rw [q31, u31]
  refine gi_iald (q := 35) C (dm_Mo_pop 22 rfl) rfl rfl (mo_a78 H) (inN (show 14 * z.top + (z.cur.n - 1 - pN P 2 z.cur.m + 6) < 224 by omega) (by decide)) ?_
  refine gi_iret C hr (dm_Mo_pop 23 rfl) ?_
  rw [nI_clamp (show z.top < 2 ^ 31 by omega)] at H
  refine ⟨?_, rfl, S, J, _, H, ho, ⟨fun _ _ => rfl, fun _ _ => rfl, fun j hj => by rw [upA_n (by omega)]⟩, ?_⟩
  · rw [nI_clamp (show 14 * z.top + (z.cur.n - 1 - pN P 2 z.cur.m + 6) < 2 ^ 31 by omega), upA_n (by decide)]
    have q := p7 (z.cur.n - 1) (by omega)
    rw [sl_hi (by omega)] at q
    rw [q]
    rfl
  · refine R.setF (fun j h1 h2 h3 => by rw [upA_n h3]) (fun i _ => by rw [upA_n (by decide)]) (fun t hq => ⟨by rw [upA_n (by decide)], by rw [upA_i, upd_is, if_neg hq]⟩) ⟨?_, ?_, by show pN P 2 z.cur.m ≤ z.cur.n - 1; omega, p4, by show z.cur.n - 1 - pN P 2 z.cur.m ≤ 8; omega, p6, fun j hj => ?_⟩
    · rw [upA_n (by decide)]
      exact p1
    · rw [upA_i, upd_is, if_pos rfl]
      show nI _ = nI (z.cur.n - 1 - pN P 2 z.cur.m + 6)
      rw [show z.cur.n - pN P 2 z.cur.m + 6 - 1 = z.cur.n - 1 - pN P 2 z.cur.m + 6 by omega]
    · rw [upA_n (by decide)]
      have hj' : j < z.cur.n - 1 := hj
      exact p7 j (by omega)
set_option maxHeartbeats 4000000 in
set_option maxRecDepth 100000 in
theorem c_Mo_push (v : Int32) (R : mcR P cb z S J F) (hn : z.cur.n - pN P 2 z.cur.m < 8) (H : mo_at M S J F G h) : gi_T l V y_Mo_push b_Mo_push 2 none 1 21 0 0 [.ref M, .int v] n h (fun r n' h' => r = none ∧ n' = n ∧ mcP M P cb (pshZ z v) h S J F G h') := by
  refine gi_enter (by decide) (Nat.le_of_ble_eq_true rfl) ?_
  intro _ _ _ _ _ _ _ _ C hr hnm
  obtain ⟨fs, Ha, Hf⟩ := id H.1
  have ho : outM M h h := outM.rf
  have h81 := R.2.2.2.1
  have ht := R.1
  have R0 : frX P z.top z.cur F := R.2.2.2.2.2.2.2.2.2.2 z.top (Nat.le_refl _)
  obtain ⟨p1, p2, p3, p4, p5, p6, p7⟩ := R0
  refine gi_aload_n (q := 1) (i := 0) C (dm_Mo_push 0 rfl) rfl rfl rfl ?_
  refine gi_get (q := 4) C (dm_Mo_push 1 rfl) rfl fl_Mo_164 Ha (mo_g78 Hf) ?_
  refine gi_aload_n (q := 5) (i := 0) C (dm_Mo_push 2 rfl) rfl rfl rfl ?_
  refine gi_aload_n (q := 6) (i := 0) C (dm_Mo_push 3 rfl) rfl rfl rfl ?_
  refine gi_get (q := 9) C (dm_Mo_push 4 rfl) rfl fl_Mo_170 Ha (mo_g80 Hf) ?_
  refine gi_aload_n (q := 10) (i := 0) C (dm_Mo_push 5 rfl) rfl rfl rfl ?_
  refine gi_get (q := 13) C (dm_Mo_push 6 rfl) rfl fl_Mo_552 Ha (mo_g81 Hf) ?_
  rw [h81]
  refine gi_iconst (q := 14) (v := 1) C (dm_Mo_push 7 rfl) rfl (by decide) ?_
  refine gi_isub (q := 15) C (dm_Mo_push 8 rfl) rfl ?_
  rw [show (1 : Int32) = nI 1 from rfl, nI_sb (by omega) (by omega), show z.top + 1 - 1 = z.top by omega]
  refine gi_iald (q := 16) C (dm_Mo_push 9 rfl) rfl rfl (mo_a80 H) (inN ht (by decide)) ?_
  rw [nI_clamp (show z.top < 2 ^ 31 by omega), p2]
  refine gi_callv 1 (q := 19) C (dm_Mo_push 10 rfl) rfl my_Mo_f lk_Mo_558 im_Mo_f rfl (c_Mo_f h81 ht (show z.cur.n - pN P 2 z.cur.m + 6 < 100 by omega) H) Ha rfl rfl ⟨(Nat.le_of_ble_eq_true rfl), (Nat.le_of_ble_eq_true rfl)⟩ (Nat.le_of_ble_eq_true rfl) ⟨(Nat.le_of_ble_eq_true rfl), (Nat.le_of_ble_eq_true rfl)⟩ (fun r16 n16 h16 e16 => ?_)
  obtain ⟨rfl, q16, u16⟩ := e16
  rw [q16, u16]
  refine gi_iload_n (q := 20) (i := 1) C (dm_Mo_push 11 rfl) rfl rfl rfl ?_
  refine gi_iast (q := 21) C (dm_Mo_push 12 rfl) rfl rfl (mo_a78 H) (inN (show 14 * z.top + (z.cur.n - pN P 2 z.cur.m + 6) < 224 by omega) (by decide)) ?_
  refine gi_genM (H.setI (p := 48) (k := 78) (by decide) rfl rfl (by decide) rfl (by omega)) (ho.up (by omega) (by omega)) (fun y H ho => ?_)
  obtain ⟨fs, Ha, Hf⟩ := id H.1
  refine gi_aload_n (q := 22) (i := 0) C (dm_Mo_push 13 rfl) rfl rfl rfl ?_
  refine gi_get (q := 25) C (dm_Mo_push 14 rfl) rfl fl_Mo_170 Ha (mo_g80 Hf) ?_
  refine gi_aload_n (q := 26) (i := 0) C (dm_Mo_push 15 rfl) rfl rfl rfl ?_
  refine gi_get (q := 29) C (dm_Mo_push 16 rfl) rfl fl_Mo_552 Ha (mo_g81 Hf) ?_
  rw [h81]
  refine gi_iconst (q := 30) (v := 1) C (dm_Mo_push 17 rfl) rfl (by decide) ?_
  refine gi_isub (q := 31) C (dm_Mo_push 18 rfl) rfl ?_
  rw [show (1 : Int32) = nI 1 from rfl, nI_sb (by omega) (by omega), show z.top + 1 - 1 = z.top by omega]
  refine gi_dup2_11 (q := 32) C (dm_Mo_push 19 rfl) rfl rfl rfl ?_
  refine gi_iald (q := 33) C (dm_Mo_push 20 rfl) rfl rfl (mo_a80 H) (inN ht (by decide)) ?_
  rw [nI_clamp (show z.top < 2 ^ 31 by omega), upA_n (by decide), p2]
  refine gi_iconst (q := 34) (v := 1) C (dm_Mo_push 21 rfl) rfl (by decide) ?_
  refine gi_iadd (q := 35) C (dm_Mo_push 22 rfl) rfl ?_
  rw [nI_1]
  refine gi_iast (q := 36) C (dm_Mo_push 23 rfl) rfl rfl (mo_a80 H) (inN ht (by decide)) ?_
  refine gi_genM (H.setI (p := 50) (k := 80) (by decide) rfl rfl (by decide) rfl (by omega)) (ho.up (by omega) (by omega)) (fun y H ho => ?_)
  obtain ⟨fs, Ha, Hf⟩ := id H.1
  refine gi_vret C hr (dm_Mo_push 24 rfl) ?_
  rw [nI_clamp (show z.top < 2 ^ 31 by omega), nI_clamp (show 14 * z.top + (z.cur.n - pN P 2 z.cur.m + 6) < 2 ^ 31 by omega)] at H
  refine ⟨rfl, rfl, S, J, _, H, ho, ⟨fun _ _ => rfl, fun _ _ => rfl, fun j hj => by rw [upA_n (by omega), upA_n (by omega)]⟩, ?_⟩
  refine R.setF (fun j h1 h2 h3 => by rw [upA_n h3, upA_n h1]) (fun i hi => by rw [upA_n (by decide), upA_i, upd_is, if_neg (by omega)]) (fun t hq => ⟨by rw [upA_n (by decide), upA_n (by decide)], by rw [upA_i, upd_is, if_neg hq, upA_n (by decide)]⟩) ⟨?_, ?_, by show pN P 2 z.cur.m ≤ z.cur.n + 1; omega, p4, by show z.cur.n + 1 - pN P 2 z.cur.m ≤ 8; omega, p6, fun j hj => ?_⟩
  · rw [upA_n (by decide), upA_n (by decide)]
    exact p1
  · rw [upA_i, upd_is, if_pos rfl]
    show nI _ = nI (z.cur.n + 1 - pN P 2 z.cur.m + 6)
    rw [show z.cur.n - pN P 2 z.cur.m + 6 + 1 = z.cur.n + 1 - pN P 2 z.cur.m + 6 by omega]
  · rw [upA_n (by decide), upA_i, upd_is]
    have hj' : j < z.cur.n + 1 := hj
    show _ = upO z.cur.s z.cur.n v j
    by_cases q : j = z.cur.n
    · subst q
      rw [if_pos (by show 14 * z.top + sl (pN P 2 z.cur.m) z.cur.n = _; rw [sl_hi p3]), upO_self]
    · rw [if_neg, upO_ne q]
      · exact p7 j (by omega)
      · intro e
        apply q
        apply sl_inj p4
        show sl (pN P 2 z.cur.m) j = _
        rw [sl_hi p3]
        have e' : 14 * z.top + sl (pN P 2 z.cur.m) j = 14 * z.top + (z.cur.n - pN P 2 z.cur.m + 6) := e
        omega
theorem sh31 {j : Int32} : j &&& 31 &&& 31 = j &&& 31 := by
  rw [Int32.and_assoc]
  rfl
theorem sh31u {j : Int32} : (j &&& 31).toUInt32 &&& Int32.toUInt32 31 = j.toUInt32 &&& Int32.toUInt32 31 := by
  have e : (j &&& 31).toUInt32 = j.toUInt32 &&& Int32.toUInt32 31 := rfl
  rw [e, UInt32.and_assoc]
  rfl
set_option maxHeartbeats 4000000 in
set_option maxRecDepth 100000 in
theorem c_Mo_reckoned (op : Nat) (i j : Int32) (h1 : 7 ≤ op) (h2 : op ≤ 17) (hz : (op = 10 ∨ op = 11) → j ≠ 0) : gi_T l V y_Mo_reckoned b_Mo_reckoned 3 (some .int) 0 0 0 0 [.int (nI op), .int i, .int j] n h (gi_is (some (.int (rckI op i j))) n h) := by
  refine gi_enter (by decide) (Nat.le_of_ble_eq_true rfl) ?_
  intro _ _ _ _ _ _ _ _ C hr hnm
  rcases (show op = 7 ∨ op = 8 ∨ op = 9 ∨ op = 10 ∨ op = 11 ∨ op = 12 ∨ op = 13 ∨ op = 14 ∨ op = 15 ∨ op = 16 ∨ op = 17 by omega) with e | e | e | e | e | e | e | e | e | e | e
  · subst e
    refine gi_iload_n (q := 1) (i := 0) C (dm_Mo_reckoned 0 rfl) rfl rfl rfl ?_
    refine gi_tableIn (off := 55) (tgt := 56) C (dm_Mo_reckoned 1 rfl) (by decide) (by decide) rfl (by decide) ?_
    refine gi_iload_n (q := 57) (i := 1) C (dm_Mo_reckoned 2 rfl) rfl rfl rfl ?_
    refine gi_iload_n (q := 58) (i := 2) C (dm_Mo_reckoned 3 rfl) rfl rfl rfl ?_
    refine gi_iadd (q := 59) C (dm_Mo_reckoned 4 rfl) rfl ?_
    refine gi_iret C hr (dm_Mo_reckoned 5 rfl) ?_
    exact ⟨rfl, rfl, rfl⟩
  · subst e
    refine gi_iload_n (q := 1) (i := 0) C (dm_Mo_reckoned 0 rfl) rfl rfl rfl ?_
    refine gi_tableIn (off := 59) (tgt := 60) C (dm_Mo_reckoned 1 rfl) (by decide) (by decide) rfl (by decide) ?_
    refine gi_iload_n (q := 61) (i := 1) C (dm_Mo_reckoned 6 rfl) rfl rfl rfl ?_
    refine gi_iload_n (q := 62) (i := 2) C (dm_Mo_reckoned 7 rfl) rfl rfl rfl ?_
    refine gi_isub (q := 63) C (dm_Mo_reckoned 8 rfl) rfl ?_
    refine gi_iret C hr (dm_Mo_reckoned 9 rfl) ?_
    exact ⟨rfl, rfl, rfl⟩
  · subst e
    refine gi_iload_n (q := 1) (i := 0) C (dm_Mo_reckoned 0 rfl) rfl rfl rfl ?_
    refine gi_tableIn (off := 63) (tgt := 64) C (dm_Mo_reckoned 1 rfl) (by decide) (by decide) rfl (by decide) ?_
    refine gi_iload_n (q := 65) (i := 1) C (dm_Mo_reckoned 10 rfl) rfl rfl rfl ?_
    refine gi_iload_n (q := 66) (i := 2) C (dm_Mo_reckoned 11 rfl) rfl rfl rfl ?_
    refine gi_imul (q := 67) C (dm_Mo_reckoned 12 rfl) rfl ?_
    refine gi_iret C hr (dm_Mo_reckoned 13 rfl) ?_
    exact ⟨rfl, rfl, rfl⟩
  · subst e
    refine gi_iload_n (q := 1) (i := 0) C (dm_Mo_reckoned 0 rfl) rfl rfl rfl ?_
    refine gi_tableIn (off := 67) (tgt := 68) C (dm_Mo_reckoned 1 rfl) (by decide) (by decide) rfl (by decide) ?_
    refine gi_iload_n (q := 69) (i := 1) C (dm_Mo_reckoned 14 rfl) rfl rfl rfl ?_
    refine gi_iload_n (q := 70) (i := 2) C (dm_Mo_reckoned 15 rfl) rfl rfl rfl ?_
    refine gi_idiv (q := 71) C (dm_Mo_reckoned 16 rfl) rfl (hz (by omega)) ?_
    refine gi_iret C hr (dm_Mo_reckoned 17 rfl) ?_
    exact ⟨rfl, rfl, rfl⟩
  · subst e
    refine gi_iload_n (q := 1) (i := 0) C (dm_Mo_reckoned 0 rfl) rfl rfl rfl ?_
    refine gi_tableIn (off := 71) (tgt := 72) C (dm_Mo_reckoned 1 rfl) (by decide) (by decide) rfl (by decide) ?_
    refine gi_iload_n (q := 73) (i := 1) C (dm_Mo_reckoned 18 rfl) rfl rfl rfl ?_
    refine gi_iload_n (q := 74) (i := 2) C (dm_Mo_reckoned 19 rfl) rfl rfl rfl ?_
    refine gi_irem (q := 75) C (dm_Mo_reckoned 20 rfl) rfl (hz (by omega)) ?_
    refine gi_iret C hr (dm_Mo_reckoned 21 rfl) ?_
    exact ⟨rfl, rfl, rfl⟩
  · subst e
    refine gi_iload_n (q := 1) (i := 0) C (dm_Mo_reckoned 0 rfl) rfl rfl rfl ?_
    refine gi_tableIn (off := 75) (tgt := 76) C (dm_Mo_reckoned 1 rfl) (by decide) (by decide) rfl (by decide) ?_
    refine gi_iload_n (q := 77) (i := 1) C (dm_Mo_reckoned 22 rfl) rfl rfl rfl ?_
    refine gi_iload_n (q := 78) (i := 2) C (dm_Mo_reckoned 23 rfl) rfl rfl rfl ?_
    refine gi_iand (q := 79) C (dm_Mo_reckoned 24 rfl) rfl ?_
    refine gi_iret C hr (dm_Mo_reckoned 25 rfl) ?_
    exact ⟨rfl, rfl, rfl⟩
  · subst e
    refine gi_iload_n (q := 1) (i := 0) C (dm_Mo_reckoned 0 rfl) rfl rfl rfl ?_
    refine gi_tableIn (off := 79) (tgt := 80) C (dm_Mo_reckoned 1 rfl) (by decide) (by decide) rfl (by decide) ?_
    refine gi_iload_n (q := 81) (i := 1) C (dm_Mo_reckoned 26 rfl) rfl rfl rfl ?_
    refine gi_iload_n (q := 82) (i := 2) C (dm_Mo_reckoned 27 rfl) rfl rfl rfl ?_
    refine gi_ior (q := 83) C (dm_Mo_reckoned 28 rfl) rfl ?_
    refine gi_iret C hr (dm_Mo_reckoned 29 rfl) ?_
    exact ⟨rfl, rfl, rfl⟩
  · subst e
    refine gi_iload_n (q := 1) (i := 0) C (dm_Mo_reckoned 0 rfl) rfl rfl rfl ?_
    refine gi_tableIn (off := 83) (tgt := 84) C (dm_Mo_reckoned 1 rfl) (by decide) (by decide) rfl (by decide) ?_
    refine gi_iload_n (q := 85) (i := 1) C (dm_Mo_reckoned 30 rfl) rfl rfl rfl ?_
    refine gi_iload_n (q := 86) (i := 2) C (dm_Mo_reckoned 31 rfl) rfl rfl rfl ?_
    refine gi_ixor (q := 87) C (dm_Mo_reckoned 32 rfl) rfl ?_
    refine gi_iret C hr (dm_Mo_reckoned 33 rfl) ?_
    exact ⟨rfl, rfl, rfl⟩
  · subst e
    refine gi_iload_n (q := 1) (i := 0) C (dm_Mo_reckoned 0 rfl) rfl rfl rfl ?_
    refine gi_tableIn (off := 87) (tgt := 88) C (dm_Mo_reckoned 1 rfl) (by decide) (by decide) rfl (by decide) ?_
    refine gi_iload_n (q := 89) (i := 1) C (dm_Mo_reckoned 34 rfl) rfl rfl rfl ?_
    refine gi_iload_n (q := 90) (i := 2) C (dm_Mo_reckoned 35 rfl) rfl rfl rfl ?_
    refine gi_bipush (q := 92) (v := 31) C (dm_Mo_reckoned 36 rfl) rfl (by decide) ?_
    refine gi_iand (q := 93) C (dm_Mo_reckoned 37 rfl) rfl ?_
    refine gi_ishl (q := 94) C (dm_Mo_reckoned 38 rfl) rfl ?_
    refine gi_iret C hr (dm_Mo_reckoned 39 rfl) ?_
    refine ⟨?_, rfl, rfl⟩
    rw [sh31]
    rfl
  · subst e
    refine gi_iload_n (q := 1) (i := 0) C (dm_Mo_reckoned 0 rfl) rfl rfl rfl ?_
    refine gi_tableIn (off := 94) (tgt := 95) C (dm_Mo_reckoned 1 rfl) (by decide) (by decide) rfl (by decide) ?_
    refine gi_iload_n (q := 96) (i := 1) C (dm_Mo_reckoned 40 rfl) rfl rfl rfl ?_
    refine gi_iload_n (q := 97) (i := 2) C (dm_Mo_reckoned 41 rfl) rfl rfl rfl ?_
    refine gi_bipush (q := 99) (v := 31) C (dm_Mo_reckoned 42 rfl) rfl (by decide) ?_
    refine gi_iand (q := 100) C (dm_Mo_reckoned 43 rfl) rfl ?_
    refine gi_ishr (q := 101) C (dm_Mo_reckoned 44 rfl) rfl ?_
    refine gi_iret C hr (dm_Mo_reckoned 45 rfl) ?_
    refine ⟨?_, rfl, rfl⟩
    rw [sh31]
    rfl
  · subst e
    refine gi_iload_n (q := 1) (i := 0) C (dm_Mo_reckoned 0 rfl) rfl rfl rfl ?_
    refine gi_tableOut (tgt := 102) C (dm_Mo_reckoned 1 rfl) (lo := 7) (hi := 16) (Or.inr (by decide)) (by decide) ?_
    refine gi_iload_n (q := 103) (i := 1) C (dm_Mo_reckoned 46 rfl) rfl rfl rfl ?_
    refine gi_iload_n (q := 104) (i := 2) C (dm_Mo_reckoned 47 rfl) rfl rfl rfl ?_
    refine gi_bipush (q := 106) (v := 31) C (dm_Mo_reckoned 48 rfl) rfl (by decide) ?_
    refine gi_iand (q := 107) C (dm_Mo_reckoned 49 rfl) rfl ?_
    refine gi_iushr (q := 108) C (dm_Mo_reckoned 50 rfl) rfl ?_
    refine gi_iret C hr (dm_Mo_reckoned 51 rfl) ?_
    refine ⟨?_, rfl, rfl⟩
    rw [sh31u]
    rfl
set_option maxHeartbeats 4000000 in
set_option maxRecDepth 100000 in
theorem c_Mo_isSo (op : Nat) (i j : Int32) (h1 : 20 ≤ op) (h2 : op ≤ 25) : gi_T l V y_Mo_isSo b_Mo_isSo 3 (some .boolean) 0 0 0 0 [.int (nI op), .int i, .int j] n h (gi_is (some (.int (bI (cmpI op i j)))) n h) := by
  refine gi_enter (by decide) (Nat.le_of_ble_eq_true rfl) ?_
  intro _ _ _ _ _ _ _ _ C hr hnm
  have js20 : (nI op = 20) ↔ (op = 20) := iff_of_eq (nI_eqP (b := 20) (by omega) (by decide))
  have js21 : (nI op = 21) ↔ (op = 21) := iff_of_eq (nI_eqP (b := 21) (by omega) (by decide))
  have js22 : (nI op = 22) ↔ (op = 22) := iff_of_eq (nI_eqP (b := 22) (by omega) (by decide))
  have js23 : (nI op = 23) ↔ (op = 23) := iff_of_eq (nI_eqP (b := 23) (by omega) (by decide))
  have js24 : (nI op = 24) ↔ (op = 24) := iff_of_eq (nI_eqP (b := 24) (by omega) (by decide))
  refine gi_iload_n (q := 1) (i := 0) C (dm_Mo_isSo 0 rfl) rfl rfl rfl ?_
  refine gi_bipush (q := 3) (v := 20) C (dm_Mo_isSo 1 rfl) rfl (by decide) ?_
  refine gi_icmp_ne (q := 6) (tgt := 19) C (dm_Mo_isSo 2 rfl) rfl (by decide) (fun c3 => ?_) (fun c3 => ?_)
  · refine gi_iload_n (q := 20) (i := 0) C (dm_Mo_isSo 10 rfl) rfl rfl rfl ?_
    refine gi_bipush (q := 22) (v := 21) C (dm_Mo_isSo 11 rfl) rfl (by decide) ?_
    refine gi_icmp_ne (q := 25) (tgt := 38) C (dm_Mo_isSo 12 rfl) rfl (by decide) (fun c22 => ?_) (fun c22 => ?_)
    · refine gi_iload_n (q := 39) (i := 0) C (dm_Mo_isSo 20 rfl) rfl rfl rfl ?_
      refine gi_bipush (q := 41) (v := 22) C (dm_Mo_isSo 21 rfl) rfl (by decide) ?_
      refine gi_icmp_ne (q := 44) (tgt := 57) C (dm_Mo_isSo 22 rfl) rfl (by decide) (fun c41 => ?_) (fun c41 => ?_)
      · refine gi_iload_n (q := 58) (i := 0) C (dm_Mo_isSo 30 rfl) rfl rfl rfl ?_
        refine gi_bipush (q := 60) (v := 23) C (dm_Mo_isSo 31 rfl) rfl (by decide) ?_
        refine gi_icmp_ne (q := 63) (tgt := 76) C (dm_Mo_isSo 32 rfl) rfl (by decide) (fun c60 => ?_) (fun c60 => ?_)
        · refine gi_iload_n (q := 77) (i := 0) C (dm_Mo_isSo 40 rfl) rfl rfl rfl ?_
          refine gi_bipush (q := 79) (v := 24) C (dm_Mo_isSo 41 rfl) rfl (by decide) ?_
          refine gi_icmp_ne (q := 82) (tgt := 95) C (dm_Mo_isSo 42 rfl) rfl (by decide) (fun c79 => ?_) (fun c79 => ?_)
          · refine gi_iload_n (q := 96) (i := 1) C (dm_Mo_isSo 50 rfl) rfl rfl rfl ?_
            refine gi_iload_n (q := 97) (i := 2) C (dm_Mo_isSo 51 rfl) rfl rfl rfl ?_
            refine gi_icmp_gt (q := 100) (tgt := 104) C (dm_Mo_isSo 52 rfl) rfl (by decide) (fun c97 => ?_) (fun c97 => ?_)
            · refine gi_iconst (q := 105) (v := 0) C (dm_Mo_isSo 55 rfl) rfl (by decide) ?_
              refine gi_zret C hr (dm_Mo_isSo 56 rfl) rfl ?_
              refine ⟨?_, rfl, rfl⟩
              unfold cmpI
              first
                | (rw [if_pos (js20.mp c3)] <;> (first | rfl | exact congrArg (fun v => some (Value.int (bI v))) (decide_eq_true c8).symm | exact congrArg (fun v => some (Value.int (bI v))) (decide_eq_false c8).symm))
                | (rw [if_neg (fun q => c3 (by rw [q]; rfl)), if_pos (js21.mp c22)] <;> (first | rfl | exact congrArg (fun v => some (Value.int (bI v))) (decide_eq_true c27).symm | exact congrArg (fun v => some (Value.int (bI v))) (decide_eq_false (fun q => q c27)).symm))
                | (rw [if_neg (fun q => c3 (by rw [q]; rfl)), if_neg (fun q => c22 (by rw [q]; rfl)), if_pos (js22.mp c41)] <;> (first | rfl | exact congrArg (fun v => some (Value.int (bI v))) (decide_eq_true (Int32.not_le.mp c46)).symm | exact congrArg (fun v => some (Value.int (bI v))) (decide_eq_false (Int32.not_lt.mpr c46)).symm))
                | (rw [if_neg (fun q => c3 (by rw [q]; rfl)), if_neg (fun q => c22 (by rw [q]; rfl)), if_neg (fun q => c41 (by rw [q]; rfl)), if_pos (js23.mp c60)] <;> (first | rfl | exact congrArg (fun v => some (Value.int (bI v))) (decide_eq_true (Int32.not_lt.mp c65)).symm | exact congrArg (fun v => some (Value.int (bI v))) (decide_eq_false (Int32.not_le.mpr c65)).symm))
                | (rw [if_neg (fun q => c3 (by rw [q]; rfl)), if_neg (fun q => c22 (by rw [q]; rfl)), if_neg (fun q => c41 (by rw [q]; rfl)), if_neg (fun q => c60 (by rw [q]; rfl)), if_pos (js24.mp c79)] <;> (first | rfl | exact congrArg (fun v => some (Value.int (bI v))) (decide_eq_true (Int32.not_le.mp c84)).symm | exact congrArg (fun v => some (Value.int (bI v))) (decide_eq_false (Int32.not_lt.mpr c84)).symm))
                | (rw [if_neg (fun q => c3 (by rw [q]; rfl)), if_neg (fun q => c22 (by rw [q]; rfl)), if_neg (fun q => c41 (by rw [q]; rfl)), if_neg (fun q => c60 (by rw [q]; rfl)), if_neg (fun q => c79 (by rw [q]; rfl))] <;> (first | rfl | exact congrArg (fun v => some (Value.int (bI v))) (decide_eq_true (Int32.not_lt.mp c97)).symm | exact congrArg (fun v => some (Value.int (bI v))) (decide_eq_false (Int32.not_le.mpr c97)).symm))
            · refine gi_iconst (q := 101) (v := 1) C (dm_Mo_isSo 53 rfl) rfl (by decide) ?_
              refine gi_goto (tgt := 105) C (dm_Mo_isSo 54 rfl) (by decide) ?_
              refine gi_zret C hr (dm_Mo_isSo 56 rfl) rfl ?_
              refine ⟨?_, rfl, rfl⟩
              unfold cmpI
              first
                | (rw [if_pos (js20.mp c3)] <;> (first | rfl | exact congrArg (fun v => some (Value.int (bI v))) (decide_eq_true c8).symm | exact congrArg (fun v => some (Value.int (bI v))) (decide_eq_false c8).symm))
                | (rw [if_neg (fun q => c3 (by rw [q]; rfl)), if_pos (js21.mp c22)] <;> (first | rfl | exact congrArg (fun v => some (Value.int (bI v))) (decide_eq_true c27).symm | exact congrArg (fun v => some (Value.int (bI v))) (decide_eq_false (fun q => q c27)).symm))
                | (rw [if_neg (fun q => c3 (by rw [q]; rfl)), if_neg (fun q => c22 (by rw [q]; rfl)), if_pos (js22.mp c41)] <;> (first | rfl | exact congrArg (fun v => some (Value.int (bI v))) (decide_eq_true (Int32.not_le.mp c46)).symm | exact congrArg (fun v => some (Value.int (bI v))) (decide_eq_false (Int32.not_lt.mpr c46)).symm))
                | (rw [if_neg (fun q => c3 (by rw [q]; rfl)), if_neg (fun q => c22 (by rw [q]; rfl)), if_neg (fun q => c41 (by rw [q]; rfl)), if_pos (js23.mp c60)] <;> (first | rfl | exact congrArg (fun v => some (Value.int (bI v))) (decide_eq_true (Int32.not_lt.mp c65)).symm | exact congrArg (fun v => some (Value.int (bI v))) (decide_eq_false (Int32.not_le.mpr c65)).symm))
                | (rw [if_neg (fun q => c3 (by rw [q]; rfl)), if_neg (fun q => c22 (by rw [q]; rfl)), if_neg (fun q => c41 (by rw [q]; rfl)), if_neg (fun q => c60 (by rw [q]; rfl)), if_pos (js24.mp c79)] <;> (first | rfl | exact congrArg (fun v => some (Value.int (bI v))) (decide_eq_true (Int32.not_le.mp c84)).symm | exact congrArg (fun v => some (Value.int (bI v))) (decide_eq_false (Int32.not_lt.mpr c84)).symm))
                | (rw [if_neg (fun q => c3 (by rw [q]; rfl)), if_neg (fun q => c22 (by rw [q]; rfl)), if_neg (fun q => c41 (by rw [q]; rfl)), if_neg (fun q => c60 (by rw [q]; rfl)), if_neg (fun q => c79 (by rw [q]; rfl))] <;> (first | rfl | exact congrArg (fun v => some (Value.int (bI v))) (decide_eq_true (Int32.not_lt.mp c97)).symm | exact congrArg (fun v => some (Value.int (bI v))) (decide_eq_false (Int32.not_le.mpr c97)).symm))
          · refine gi_iload_n (q := 83) (i := 1) C (dm_Mo_isSo 43 rfl) rfl rfl rfl ?_
            refine gi_iload_n (q := 84) (i := 2) C (dm_Mo_isSo 44 rfl) rfl rfl rfl ?_
            refine gi_icmp_le (q := 87) (tgt := 91) C (dm_Mo_isSo 45 rfl) rfl (by decide) (fun c84 => ?_) (fun c84 => ?_)
            · refine gi_iconst (q := 92) (v := 0) C (dm_Mo_isSo 48 rfl) rfl (by decide) ?_
              refine gi_goto (tgt := 105) C (dm_Mo_isSo 49 rfl) (by decide) ?_
              refine gi_zret C hr (dm_Mo_isSo 56 rfl) rfl ?_
              refine ⟨?_, rfl, rfl⟩
              unfold cmpI
              first
                | (rw [if_pos (js20.mp c3)] <;> (first | rfl | exact congrArg (fun v => some (Value.int (bI v))) (decide_eq_true c8).symm | exact congrArg (fun v => some (Value.int (bI v))) (decide_eq_false c8).symm))
                | (rw [if_neg (fun q => c3 (by rw [q]; rfl)), if_pos (js21.mp c22)] <;> (first | rfl | exact congrArg (fun v => some (Value.int (bI v))) (decide_eq_true c27).symm | exact congrArg (fun v => some (Value.int (bI v))) (decide_eq_false (fun q => q c27)).symm))
                | (rw [if_neg (fun q => c3 (by rw [q]; rfl)), if_neg (fun q => c22 (by rw [q]; rfl)), if_pos (js22.mp c41)] <;> (first | rfl | exact congrArg (fun v => some (Value.int (bI v))) (decide_eq_true (Int32.not_le.mp c46)).symm | exact congrArg (fun v => some (Value.int (bI v))) (decide_eq_false (Int32.not_lt.mpr c46)).symm))
                | (rw [if_neg (fun q => c3 (by rw [q]; rfl)), if_neg (fun q => c22 (by rw [q]; rfl)), if_neg (fun q => c41 (by rw [q]; rfl)), if_pos (js23.mp c60)] <;> (first | rfl | exact congrArg (fun v => some (Value.int (bI v))) (decide_eq_true (Int32.not_lt.mp c65)).symm | exact congrArg (fun v => some (Value.int (bI v))) (decide_eq_false (Int32.not_le.mpr c65)).symm))
                | (rw [if_neg (fun q => c3 (by rw [q]; rfl)), if_neg (fun q => c22 (by rw [q]; rfl)), if_neg (fun q => c41 (by rw [q]; rfl)), if_neg (fun q => c60 (by rw [q]; rfl)), if_pos (js24.mp c79)] <;> (first | rfl | exact congrArg (fun v => some (Value.int (bI v))) (decide_eq_true (Int32.not_le.mp c84)).symm | exact congrArg (fun v => some (Value.int (bI v))) (decide_eq_false (Int32.not_lt.mpr c84)).symm))
                | (rw [if_neg (fun q => c3 (by rw [q]; rfl)), if_neg (fun q => c22 (by rw [q]; rfl)), if_neg (fun q => c41 (by rw [q]; rfl)), if_neg (fun q => c60 (by rw [q]; rfl)), if_neg (fun q => c79 (by rw [q]; rfl))] <;> (first | rfl | exact congrArg (fun v => some (Value.int (bI v))) (decide_eq_true (Int32.not_lt.mp c97)).symm | exact congrArg (fun v => some (Value.int (bI v))) (decide_eq_false (Int32.not_le.mpr c97)).symm))
            · refine gi_iconst (q := 88) (v := 1) C (dm_Mo_isSo 46 rfl) rfl (by decide) ?_
              refine gi_goto (tgt := 105) C (dm_Mo_isSo 47 rfl) (by decide) ?_
              refine gi_zret C hr (dm_Mo_isSo 56 rfl) rfl ?_
              refine ⟨?_, rfl, rfl⟩
              unfold cmpI
              first
                | (rw [if_pos (js20.mp c3)] <;> (first | rfl | exact congrArg (fun v => some (Value.int (bI v))) (decide_eq_true c8).symm | exact congrArg (fun v => some (Value.int (bI v))) (decide_eq_false c8).symm))
                | (rw [if_neg (fun q => c3 (by rw [q]; rfl)), if_pos (js21.mp c22)] <;> (first | rfl | exact congrArg (fun v => some (Value.int (bI v))) (decide_eq_true c27).symm | exact congrArg (fun v => some (Value.int (bI v))) (decide_eq_false (fun q => q c27)).symm))
                | (rw [if_neg (fun q => c3 (by rw [q]; rfl)), if_neg (fun q => c22 (by rw [q]; rfl)), if_pos (js22.mp c41)] <;> (first | rfl | exact congrArg (fun v => some (Value.int (bI v))) (decide_eq_true (Int32.not_le.mp c46)).symm | exact congrArg (fun v => some (Value.int (bI v))) (decide_eq_false (Int32.not_lt.mpr c46)).symm))
                | (rw [if_neg (fun q => c3 (by rw [q]; rfl)), if_neg (fun q => c22 (by rw [q]; rfl)), if_neg (fun q => c41 (by rw [q]; rfl)), if_pos (js23.mp c60)] <;> (first | rfl | exact congrArg (fun v => some (Value.int (bI v))) (decide_eq_true (Int32.not_lt.mp c65)).symm | exact congrArg (fun v => some (Value.int (bI v))) (decide_eq_false (Int32.not_le.mpr c65)).symm))
                | (rw [if_neg (fun q => c3 (by rw [q]; rfl)), if_neg (fun q => c22 (by rw [q]; rfl)), if_neg (fun q => c41 (by rw [q]; rfl)), if_neg (fun q => c60 (by rw [q]; rfl)), if_pos (js24.mp c79)] <;> (first | rfl | exact congrArg (fun v => some (Value.int (bI v))) (decide_eq_true (Int32.not_le.mp c84)).symm | exact congrArg (fun v => some (Value.int (bI v))) (decide_eq_false (Int32.not_lt.mpr c84)).symm))
                | (rw [if_neg (fun q => c3 (by rw [q]; rfl)), if_neg (fun q => c22 (by rw [q]; rfl)), if_neg (fun q => c41 (by rw [q]; rfl)), if_neg (fun q => c60 (by rw [q]; rfl)), if_neg (fun q => c79 (by rw [q]; rfl))] <;> (first | rfl | exact congrArg (fun v => some (Value.int (bI v))) (decide_eq_true (Int32.not_lt.mp c97)).symm | exact congrArg (fun v => some (Value.int (bI v))) (decide_eq_false (Int32.not_le.mpr c97)).symm))
        · refine gi_iload_n (q := 64) (i := 1) C (dm_Mo_isSo 33 rfl) rfl rfl rfl ?_
          refine gi_iload_n (q := 65) (i := 2) C (dm_Mo_isSo 34 rfl) rfl rfl rfl ?_
          refine gi_icmp_lt (q := 68) (tgt := 72) C (dm_Mo_isSo 35 rfl) rfl (by decide) (fun c65 => ?_) (fun c65 => ?_)
          · refine gi_iconst (q := 73) (v := 0) C (dm_Mo_isSo 38 rfl) rfl (by decide) ?_
            refine gi_goto (tgt := 105) C (dm_Mo_isSo 39 rfl) (by decide) ?_
            refine gi_zret C hr (dm_Mo_isSo 56 rfl) rfl ?_
            refine ⟨?_, rfl, rfl⟩
            unfold cmpI
            first
              | (rw [if_pos (js20.mp c3)] <;> (first | rfl | exact congrArg (fun v => some (Value.int (bI v))) (decide_eq_true c8).symm | exact congrArg (fun v => some (Value.int (bI v))) (decide_eq_false c8).symm))
              | (rw [if_neg (fun q => c3 (by rw [q]; rfl)), if_pos (js21.mp c22)] <;> (first | rfl | exact congrArg (fun v => some (Value.int (bI v))) (decide_eq_true c27).symm | exact congrArg (fun v => some (Value.int (bI v))) (decide_eq_false (fun q => q c27)).symm))
              | (rw [if_neg (fun q => c3 (by rw [q]; rfl)), if_neg (fun q => c22 (by rw [q]; rfl)), if_pos (js22.mp c41)] <;> (first | rfl | exact congrArg (fun v => some (Value.int (bI v))) (decide_eq_true (Int32.not_le.mp c46)).symm | exact congrArg (fun v => some (Value.int (bI v))) (decide_eq_false (Int32.not_lt.mpr c46)).symm))
              | (rw [if_neg (fun q => c3 (by rw [q]; rfl)), if_neg (fun q => c22 (by rw [q]; rfl)), if_neg (fun q => c41 (by rw [q]; rfl)), if_pos (js23.mp c60)] <;> (first | rfl | exact congrArg (fun v => some (Value.int (bI v))) (decide_eq_true (Int32.not_lt.mp c65)).symm | exact congrArg (fun v => some (Value.int (bI v))) (decide_eq_false (Int32.not_le.mpr c65)).symm))
              | (rw [if_neg (fun q => c3 (by rw [q]; rfl)), if_neg (fun q => c22 (by rw [q]; rfl)), if_neg (fun q => c41 (by rw [q]; rfl)), if_neg (fun q => c60 (by rw [q]; rfl)), if_pos (js24.mp c79)] <;> (first | rfl | exact congrArg (fun v => some (Value.int (bI v))) (decide_eq_true (Int32.not_le.mp c84)).symm | exact congrArg (fun v => some (Value.int (bI v))) (decide_eq_false (Int32.not_lt.mpr c84)).symm))
              | (rw [if_neg (fun q => c3 (by rw [q]; rfl)), if_neg (fun q => c22 (by rw [q]; rfl)), if_neg (fun q => c41 (by rw [q]; rfl)), if_neg (fun q => c60 (by rw [q]; rfl)), if_neg (fun q => c79 (by rw [q]; rfl))] <;> (first | rfl | exact congrArg (fun v => some (Value.int (bI v))) (decide_eq_true (Int32.not_lt.mp c97)).symm | exact congrArg (fun v => some (Value.int (bI v))) (decide_eq_false (Int32.not_le.mpr c97)).symm))
          · refine gi_iconst (q := 69) (v := 1) C (dm_Mo_isSo 36 rfl) rfl (by decide) ?_
            refine gi_goto (tgt := 105) C (dm_Mo_isSo 37 rfl) (by decide) ?_
            refine gi_zret C hr (dm_Mo_isSo 56 rfl) rfl ?_
            refine ⟨?_, rfl, rfl⟩
            unfold cmpI
            first
              | (rw [if_pos (js20.mp c3)] <;> (first | rfl | exact congrArg (fun v => some (Value.int (bI v))) (decide_eq_true c8).symm | exact congrArg (fun v => some (Value.int (bI v))) (decide_eq_false c8).symm))
              | (rw [if_neg (fun q => c3 (by rw [q]; rfl)), if_pos (js21.mp c22)] <;> (first | rfl | exact congrArg (fun v => some (Value.int (bI v))) (decide_eq_true c27).symm | exact congrArg (fun v => some (Value.int (bI v))) (decide_eq_false (fun q => q c27)).symm))
              | (rw [if_neg (fun q => c3 (by rw [q]; rfl)), if_neg (fun q => c22 (by rw [q]; rfl)), if_pos (js22.mp c41)] <;> (first | rfl | exact congrArg (fun v => some (Value.int (bI v))) (decide_eq_true (Int32.not_le.mp c46)).symm | exact congrArg (fun v => some (Value.int (bI v))) (decide_eq_false (Int32.not_lt.mpr c46)).symm))
              | (rw [if_neg (fun q => c3 (by rw [q]; rfl)), if_neg (fun q => c22 (by rw [q]; rfl)), if_neg (fun q => c41 (by rw [q]; rfl)), if_pos (js23.mp c60)] <;> (first | rfl | exact congrArg (fun v => some (Value.int (bI v))) (decide_eq_true (Int32.not_lt.mp c65)).symm | exact congrArg (fun v => some (Value.int (bI v))) (decide_eq_false (Int32.not_le.mpr c65)).symm))
              | (rw [if_neg (fun q => c3 (by rw [q]; rfl)), if_neg (fun q => c22 (by rw [q]; rfl)), if_neg (fun q => c41 (by rw [q]; rfl)), if_neg (fun q => c60 (by rw [q]; rfl)), if_pos (js24.mp c79)] <;> (first | rfl | exact congrArg (fun v => some (Value.int (bI v))) (decide_eq_true (Int32.not_le.mp c84)).symm | exact congrArg (fun v => some (Value.int (bI v))) (decide_eq_false (Int32.not_lt.mpr c84)).symm))
              | (rw [if_neg (fun q => c3 (by rw [q]; rfl)), if_neg (fun q => c22 (by rw [q]; rfl)), if_neg (fun q => c41 (by rw [q]; rfl)), if_neg (fun q => c60 (by rw [q]; rfl)), if_neg (fun q => c79 (by rw [q]; rfl))] <;> (first | rfl | exact congrArg (fun v => some (Value.int (bI v))) (decide_eq_true (Int32.not_lt.mp c97)).symm | exact congrArg (fun v => some (Value.int (bI v))) (decide_eq_false (Int32.not_le.mpr c97)).symm))
      · refine gi_iload_n (q := 45) (i := 1) C (dm_Mo_isSo 23 rfl) rfl rfl rfl ?_
        refine gi_iload_n (q := 46) (i := 2) C (dm_Mo_isSo 24 rfl) rfl rfl rfl ?_
        refine gi_icmp_ge (q := 49) (tgt := 53) C (dm_Mo_isSo 25 rfl) rfl (by decide) (fun c46 => ?_) (fun c46 => ?_)
        · refine gi_iconst (q := 54) (v := 0) C (dm_Mo_isSo 28 rfl) rfl (by decide) ?_
          refine gi_goto (tgt := 105) C (dm_Mo_isSo 29 rfl) (by decide) ?_
          refine gi_zret C hr (dm_Mo_isSo 56 rfl) rfl ?_
          refine ⟨?_, rfl, rfl⟩
          unfold cmpI
          first
            | (rw [if_pos (js20.mp c3)] <;> (first | rfl | exact congrArg (fun v => some (Value.int (bI v))) (decide_eq_true c8).symm | exact congrArg (fun v => some (Value.int (bI v))) (decide_eq_false c8).symm))
            | (rw [if_neg (fun q => c3 (by rw [q]; rfl)), if_pos (js21.mp c22)] <;> (first | rfl | exact congrArg (fun v => some (Value.int (bI v))) (decide_eq_true c27).symm | exact congrArg (fun v => some (Value.int (bI v))) (decide_eq_false (fun q => q c27)).symm))
            | (rw [if_neg (fun q => c3 (by rw [q]; rfl)), if_neg (fun q => c22 (by rw [q]; rfl)), if_pos (js22.mp c41)] <;> (first | rfl | exact congrArg (fun v => some (Value.int (bI v))) (decide_eq_true (Int32.not_le.mp c46)).symm | exact congrArg (fun v => some (Value.int (bI v))) (decide_eq_false (Int32.not_lt.mpr c46)).symm))
            | (rw [if_neg (fun q => c3 (by rw [q]; rfl)), if_neg (fun q => c22 (by rw [q]; rfl)), if_neg (fun q => c41 (by rw [q]; rfl)), if_pos (js23.mp c60)] <;> (first | rfl | exact congrArg (fun v => some (Value.int (bI v))) (decide_eq_true (Int32.not_lt.mp c65)).symm | exact congrArg (fun v => some (Value.int (bI v))) (decide_eq_false (Int32.not_le.mpr c65)).symm))
            | (rw [if_neg (fun q => c3 (by rw [q]; rfl)), if_neg (fun q => c22 (by rw [q]; rfl)), if_neg (fun q => c41 (by rw [q]; rfl)), if_neg (fun q => c60 (by rw [q]; rfl)), if_pos (js24.mp c79)] <;> (first | rfl | exact congrArg (fun v => some (Value.int (bI v))) (decide_eq_true (Int32.not_le.mp c84)).symm | exact congrArg (fun v => some (Value.int (bI v))) (decide_eq_false (Int32.not_lt.mpr c84)).symm))
            | (rw [if_neg (fun q => c3 (by rw [q]; rfl)), if_neg (fun q => c22 (by rw [q]; rfl)), if_neg (fun q => c41 (by rw [q]; rfl)), if_neg (fun q => c60 (by rw [q]; rfl)), if_neg (fun q => c79 (by rw [q]; rfl))] <;> (first | rfl | exact congrArg (fun v => some (Value.int (bI v))) (decide_eq_true (Int32.not_lt.mp c97)).symm | exact congrArg (fun v => some (Value.int (bI v))) (decide_eq_false (Int32.not_le.mpr c97)).symm))
        · refine gi_iconst (q := 50) (v := 1) C (dm_Mo_isSo 26 rfl) rfl (by decide) ?_
          refine gi_goto (tgt := 105) C (dm_Mo_isSo 27 rfl) (by decide) ?_
          refine gi_zret C hr (dm_Mo_isSo 56 rfl) rfl ?_
          refine ⟨?_, rfl, rfl⟩
          unfold cmpI
          first
            | (rw [if_pos (js20.mp c3)] <;> (first | rfl | exact congrArg (fun v => some (Value.int (bI v))) (decide_eq_true c8).symm | exact congrArg (fun v => some (Value.int (bI v))) (decide_eq_false c8).symm))
            | (rw [if_neg (fun q => c3 (by rw [q]; rfl)), if_pos (js21.mp c22)] <;> (first | rfl | exact congrArg (fun v => some (Value.int (bI v))) (decide_eq_true c27).symm | exact congrArg (fun v => some (Value.int (bI v))) (decide_eq_false (fun q => q c27)).symm))
            | (rw [if_neg (fun q => c3 (by rw [q]; rfl)), if_neg (fun q => c22 (by rw [q]; rfl)), if_pos (js22.mp c41)] <;> (first | rfl | exact congrArg (fun v => some (Value.int (bI v))) (decide_eq_true (Int32.not_le.mp c46)).symm | exact congrArg (fun v => some (Value.int (bI v))) (decide_eq_false (Int32.not_lt.mpr c46)).symm))
            | (rw [if_neg (fun q => c3 (by rw [q]; rfl)), if_neg (fun q => c22 (by rw [q]; rfl)), if_neg (fun q => c41 (by rw [q]; rfl)), if_pos (js23.mp c60)] <;> (first | rfl | exact congrArg (fun v => some (Value.int (bI v))) (decide_eq_true (Int32.not_lt.mp c65)).symm | exact congrArg (fun v => some (Value.int (bI v))) (decide_eq_false (Int32.not_le.mpr c65)).symm))
            | (rw [if_neg (fun q => c3 (by rw [q]; rfl)), if_neg (fun q => c22 (by rw [q]; rfl)), if_neg (fun q => c41 (by rw [q]; rfl)), if_neg (fun q => c60 (by rw [q]; rfl)), if_pos (js24.mp c79)] <;> (first | rfl | exact congrArg (fun v => some (Value.int (bI v))) (decide_eq_true (Int32.not_le.mp c84)).symm | exact congrArg (fun v => some (Value.int (bI v))) (decide_eq_false (Int32.not_lt.mpr c84)).symm))
            | (rw [if_neg (fun q => c3 (by rw [q]; rfl)), if_neg (fun q => c22 (by rw [q]; rfl)), if_neg (fun q => c41 (by rw [q]; rfl)), if_neg (fun q => c60 (by rw [q]; rfl)), if_neg (fun q => c79 (by rw [q]; rfl))] <;> (first | rfl | exact congrArg (fun v => some (Value.int (bI v))) (decide_eq_true (Int32.not_lt.mp c97)).symm | exact congrArg (fun v => some (Value.int (bI v))) (decide_eq_false (Int32.not_le.mpr c97)).symm))
    · refine gi_iload_n (q := 26) (i := 1) C (dm_Mo_isSo 13 rfl) rfl rfl rfl ?_
      refine gi_iload_n (q := 27) (i := 2) C (dm_Mo_isSo 14 rfl) rfl rfl rfl ?_
      refine gi_icmp_eq (q := 30) (tgt := 34) C (dm_Mo_isSo 15 rfl) rfl (by decide) (fun c27 => ?_) (fun c27 => ?_)
      · refine gi_iconst (q := 35) (v := 0) C (dm_Mo_isSo 18 rfl) rfl (by decide) ?_
        refine gi_goto (tgt := 105) C (dm_Mo_isSo 19 rfl) (by decide) ?_
        refine gi_zret C hr (dm_Mo_isSo 56 rfl) rfl ?_
        refine ⟨?_, rfl, rfl⟩
        unfold cmpI
        first
          | (rw [if_pos (js20.mp c3)] <;> (first | rfl | exact congrArg (fun v => some (Value.int (bI v))) (decide_eq_true c8).symm | exact congrArg (fun v => some (Value.int (bI v))) (decide_eq_false c8).symm))
          | (rw [if_neg (fun q => c3 (by rw [q]; rfl)), if_pos (js21.mp c22)] <;> (first | rfl | exact congrArg (fun v => some (Value.int (bI v))) (decide_eq_true c27).symm | exact congrArg (fun v => some (Value.int (bI v))) (decide_eq_false (fun q => q c27)).symm))
          | (rw [if_neg (fun q => c3 (by rw [q]; rfl)), if_neg (fun q => c22 (by rw [q]; rfl)), if_pos (js22.mp c41)] <;> (first | rfl | exact congrArg (fun v => some (Value.int (bI v))) (decide_eq_true (Int32.not_le.mp c46)).symm | exact congrArg (fun v => some (Value.int (bI v))) (decide_eq_false (Int32.not_lt.mpr c46)).symm))
          | (rw [if_neg (fun q => c3 (by rw [q]; rfl)), if_neg (fun q => c22 (by rw [q]; rfl)), if_neg (fun q => c41 (by rw [q]; rfl)), if_pos (js23.mp c60)] <;> (first | rfl | exact congrArg (fun v => some (Value.int (bI v))) (decide_eq_true (Int32.not_lt.mp c65)).symm | exact congrArg (fun v => some (Value.int (bI v))) (decide_eq_false (Int32.not_le.mpr c65)).symm))
          | (rw [if_neg (fun q => c3 (by rw [q]; rfl)), if_neg (fun q => c22 (by rw [q]; rfl)), if_neg (fun q => c41 (by rw [q]; rfl)), if_neg (fun q => c60 (by rw [q]; rfl)), if_pos (js24.mp c79)] <;> (first | rfl | exact congrArg (fun v => some (Value.int (bI v))) (decide_eq_true (Int32.not_le.mp c84)).symm | exact congrArg (fun v => some (Value.int (bI v))) (decide_eq_false (Int32.not_lt.mpr c84)).symm))
          | (rw [if_neg (fun q => c3 (by rw [q]; rfl)), if_neg (fun q => c22 (by rw [q]; rfl)), if_neg (fun q => c41 (by rw [q]; rfl)), if_neg (fun q => c60 (by rw [q]; rfl)), if_neg (fun q => c79 (by rw [q]; rfl))] <;> (first | rfl | exact congrArg (fun v => some (Value.int (bI v))) (decide_eq_true (Int32.not_lt.mp c97)).symm | exact congrArg (fun v => some (Value.int (bI v))) (decide_eq_false (Int32.not_le.mpr c97)).symm))
      · refine gi_iconst (q := 31) (v := 1) C (dm_Mo_isSo 16 rfl) rfl (by decide) ?_
        refine gi_goto (tgt := 105) C (dm_Mo_isSo 17 rfl) (by decide) ?_
        refine gi_zret C hr (dm_Mo_isSo 56 rfl) rfl ?_
        refine ⟨?_, rfl, rfl⟩
        unfold cmpI
        first
          | (rw [if_pos (js20.mp c3)] <;> (first | rfl | exact congrArg (fun v => some (Value.int (bI v))) (decide_eq_true c8).symm | exact congrArg (fun v => some (Value.int (bI v))) (decide_eq_false c8).symm))
          | (rw [if_neg (fun q => c3 (by rw [q]; rfl)), if_pos (js21.mp c22)] <;> (first | rfl | exact congrArg (fun v => some (Value.int (bI v))) (decide_eq_true c27).symm | exact congrArg (fun v => some (Value.int (bI v))) (decide_eq_false (fun q => q c27)).symm))
          | (rw [if_neg (fun q => c3 (by rw [q]; rfl)), if_neg (fun q => c22 (by rw [q]; rfl)), if_pos (js22.mp c41)] <;> (first | rfl | exact congrArg (fun v => some (Value.int (bI v))) (decide_eq_true (Int32.not_le.mp c46)).symm | exact congrArg (fun v => some (Value.int (bI v))) (decide_eq_false (Int32.not_lt.mpr c46)).symm))
          | (rw [if_neg (fun q => c3 (by rw [q]; rfl)), if_neg (fun q => c22 (by rw [q]; rfl)), if_neg (fun q => c41 (by rw [q]; rfl)), if_pos (js23.mp c60)] <;> (first | rfl | exact congrArg (fun v => some (Value.int (bI v))) (decide_eq_true (Int32.not_lt.mp c65)).symm | exact congrArg (fun v => some (Value.int (bI v))) (decide_eq_false (Int32.not_le.mpr c65)).symm))
          | (rw [if_neg (fun q => c3 (by rw [q]; rfl)), if_neg (fun q => c22 (by rw [q]; rfl)), if_neg (fun q => c41 (by rw [q]; rfl)), if_neg (fun q => c60 (by rw [q]; rfl)), if_pos (js24.mp c79)] <;> (first | rfl | exact congrArg (fun v => some (Value.int (bI v))) (decide_eq_true (Int32.not_le.mp c84)).symm | exact congrArg (fun v => some (Value.int (bI v))) (decide_eq_false (Int32.not_lt.mpr c84)).symm))
          | (rw [if_neg (fun q => c3 (by rw [q]; rfl)), if_neg (fun q => c22 (by rw [q]; rfl)), if_neg (fun q => c41 (by rw [q]; rfl)), if_neg (fun q => c60 (by rw [q]; rfl)), if_neg (fun q => c79 (by rw [q]; rfl))] <;> (first | rfl | exact congrArg (fun v => some (Value.int (bI v))) (decide_eq_true (Int32.not_lt.mp c97)).symm | exact congrArg (fun v => some (Value.int (bI v))) (decide_eq_false (Int32.not_le.mpr c97)).symm))
  · refine gi_iload_n (q := 7) (i := 1) C (dm_Mo_isSo 3 rfl) rfl rfl rfl ?_
    refine gi_iload_n (q := 8) (i := 2) C (dm_Mo_isSo 4 rfl) rfl rfl rfl ?_
    refine gi_icmp_ne (q := 11) (tgt := 15) C (dm_Mo_isSo 5 rfl) rfl (by decide) (fun c8 => ?_) (fun c8 => ?_)
    · refine gi_iconst (q := 16) (v := 0) C (dm_Mo_isSo 8 rfl) rfl (by decide) ?_
      refine gi_goto (tgt := 105) C (dm_Mo_isSo 9 rfl) (by decide) ?_
      refine gi_zret C hr (dm_Mo_isSo 56 rfl) rfl ?_
      refine ⟨?_, rfl, rfl⟩
      unfold cmpI
      first
        | (rw [if_pos (js20.mp c3)] <;> (first | rfl | exact congrArg (fun v => some (Value.int (bI v))) (decide_eq_true c8).symm | exact congrArg (fun v => some (Value.int (bI v))) (decide_eq_false c8).symm))
        | (rw [if_neg (fun q => c3 (by rw [q]; rfl)), if_pos (js21.mp c22)] <;> (first | rfl | exact congrArg (fun v => some (Value.int (bI v))) (decide_eq_true c27).symm | exact congrArg (fun v => some (Value.int (bI v))) (decide_eq_false (fun q => q c27)).symm))
        | (rw [if_neg (fun q => c3 (by rw [q]; rfl)), if_neg (fun q => c22 (by rw [q]; rfl)), if_pos (js22.mp c41)] <;> (first | rfl | exact congrArg (fun v => some (Value.int (bI v))) (decide_eq_true (Int32.not_le.mp c46)).symm | exact congrArg (fun v => some (Value.int (bI v))) (decide_eq_false (Int32.not_lt.mpr c46)).symm))
        | (rw [if_neg (fun q => c3 (by rw [q]; rfl)), if_neg (fun q => c22 (by rw [q]; rfl)), if_neg (fun q => c41 (by rw [q]; rfl)), if_pos (js23.mp c60)] <;> (first | rfl | exact congrArg (fun v => some (Value.int (bI v))) (decide_eq_true (Int32.not_lt.mp c65)).symm | exact congrArg (fun v => some (Value.int (bI v))) (decide_eq_false (Int32.not_le.mpr c65)).symm))
        | (rw [if_neg (fun q => c3 (by rw [q]; rfl)), if_neg (fun q => c22 (by rw [q]; rfl)), if_neg (fun q => c41 (by rw [q]; rfl)), if_neg (fun q => c60 (by rw [q]; rfl)), if_pos (js24.mp c79)] <;> (first | rfl | exact congrArg (fun v => some (Value.int (bI v))) (decide_eq_true (Int32.not_le.mp c84)).symm | exact congrArg (fun v => some (Value.int (bI v))) (decide_eq_false (Int32.not_lt.mpr c84)).symm))
        | (rw [if_neg (fun q => c3 (by rw [q]; rfl)), if_neg (fun q => c22 (by rw [q]; rfl)), if_neg (fun q => c41 (by rw [q]; rfl)), if_neg (fun q => c60 (by rw [q]; rfl)), if_neg (fun q => c79 (by rw [q]; rfl))] <;> (first | rfl | exact congrArg (fun v => some (Value.int (bI v))) (decide_eq_true (Int32.not_lt.mp c97)).symm | exact congrArg (fun v => some (Value.int (bI v))) (decide_eq_false (Int32.not_le.mpr c97)).symm))
    · refine gi_iconst (q := 12) (v := 1) C (dm_Mo_isSo 6 rfl) rfl (by decide) ?_
      refine gi_goto (tgt := 105) C (dm_Mo_isSo 7 rfl) (by decide) ?_
      refine gi_zret C hr (dm_Mo_isSo 56 rfl) rfl ?_
      refine ⟨?_, rfl, rfl⟩
      unfold cmpI
      first
        | (rw [if_pos (js20.mp c3)] <;> (first | rfl | exact congrArg (fun v => some (Value.int (bI v))) (decide_eq_true c8).symm | exact congrArg (fun v => some (Value.int (bI v))) (decide_eq_false c8).symm))
        | (rw [if_neg (fun q => c3 (by rw [q]; rfl)), if_pos (js21.mp c22)] <;> (first | rfl | exact congrArg (fun v => some (Value.int (bI v))) (decide_eq_true c27).symm | exact congrArg (fun v => some (Value.int (bI v))) (decide_eq_false (fun q => q c27)).symm))
        | (rw [if_neg (fun q => c3 (by rw [q]; rfl)), if_neg (fun q => c22 (by rw [q]; rfl)), if_pos (js22.mp c41)] <;> (first | rfl | exact congrArg (fun v => some (Value.int (bI v))) (decide_eq_true (Int32.not_le.mp c46)).symm | exact congrArg (fun v => some (Value.int (bI v))) (decide_eq_false (Int32.not_lt.mpr c46)).symm))
        | (rw [if_neg (fun q => c3 (by rw [q]; rfl)), if_neg (fun q => c22 (by rw [q]; rfl)), if_neg (fun q => c41 (by rw [q]; rfl)), if_pos (js23.mp c60)] <;> (first | rfl | exact congrArg (fun v => some (Value.int (bI v))) (decide_eq_true (Int32.not_lt.mp c65)).symm | exact congrArg (fun v => some (Value.int (bI v))) (decide_eq_false (Int32.not_le.mpr c65)).symm))
        | (rw [if_neg (fun q => c3 (by rw [q]; rfl)), if_neg (fun q => c22 (by rw [q]; rfl)), if_neg (fun q => c41 (by rw [q]; rfl)), if_neg (fun q => c60 (by rw [q]; rfl)), if_pos (js24.mp c79)] <;> (first | rfl | exact congrArg (fun v => some (Value.int (bI v))) (decide_eq_true (Int32.not_le.mp c84)).symm | exact congrArg (fun v => some (Value.int (bI v))) (decide_eq_false (Int32.not_lt.mpr c84)).symm))
        | (rw [if_neg (fun q => c3 (by rw [q]; rfl)), if_neg (fun q => c22 (by rw [q]; rfl)), if_neg (fun q => c41 (by rw [q]; rfl)), if_neg (fun q => c60 (by rw [q]; rfl)), if_neg (fun q => c79 (by rw [q]; rfl))] <;> (first | rfl | exact congrArg (fun v => some (Value.int (bI v))) (decide_eq_true (Int32.not_lt.mp c97)).symm | exact congrArg (fun v => some (Value.int (bI v))) (decide_eq_false (Int32.not_le.mpr c97)).symm))
set_option maxHeartbeats 4000000 in
set_option maxRecDepth 100000 in
theorem c_Mo_isToldBy {t : Nat} (v : Int32) (h1 : 480 ≤ t) (h2 : t < 534) (h0 : fsN P Fz F G) (hF : okF (tyF P sh) Fz) (H : mo_at M S J F G h) : gi_T l V y_Mo_isToldBy b_Mo_isToldBy 3 (some .boolean) 1 27 0 0 [.ref M, .int (nI (tix t)), .int v] n h (gi_is (some (.int (bI (rwT Fz t v)))) n h) := by
  refine gi_enter (by decide) (Nat.le_of_ble_eq_true rfl) ?_
  intro _ _ _ _ _ _ _ _ C hr hnm
  obtain ⟨fs, Ha, Hf⟩ := id H.1
  have ho : outM M h h := outM.rf
  have tb := tix_b h1 (show t < 542 by omega)
  obtain ⟨r39, rt⟩ := h0.2 t h1 (by omega)
  refine gi_aload_n (q := 1) (i := 0) C (dm_Mo_isToldBy 0 rfl) rfl rfl rfl ?_
  refine gi_get (q := 4) C (dm_Mo_isToldBy 1 rfl) rfl fl_Mo_83 Ha (mo_g39 Hf) ?_
  refine gi_iload_n (q := 5) (i := 1) C (dm_Mo_isToldBy 2 rfl) rfl rfl rfl ?_
  refine gi_zald (q := 6) C (dm_Mo_isToldBy 3 rfl) rfl rfl (mo_a39 H) (inN (show tix t < 160 by omega) (by decide)) ?_
  rw [nI_clamp (show tix t < 2 ^ 31 by omega), r39]
  refine gi_if_eq (q := 9) (tgt := 39) C (dm_Mo_isToldBy 4 rfl) rfl (by decide) (fun c6 => ?_) (fun c6 => ?_)
  · refine gi_iconst (q := 40) (v := 0) C (dm_Mo_isToldBy 23 rfl) rfl (by decide) ?_
    refine gi_zret C hr (dm_Mo_isToldBy 24 rfl) rfl ?_
    refine ⟨?_, rfl, rfl⟩
    unfold rwT
    first
      | (rw [bI_fa c6]; rfl)
      | (rw [tl, bI_fa c32]; rfl)
      | (rw [tl, bI_t c32]; rfl)
  · have tl := bI_t c6
    obtain ⟨e1, ok⟩ := tv_one hF h1 h2 tl
    have rt := rt tl
    rw [e1] at rt
    obtain ⟨e40, e41, e42⟩ := rt
    change G 40 _ = _ at e40
    change G 41 _ = _ at e41
    change G 42 _ = _ at e42
    have vb := i32_b v
    refine gi_aload_n (q := 10) (i := 0) C (dm_Mo_isToldBy 5 rfl) rfl rfl rfl ?_
    refine gi_get (q := 13) C (dm_Mo_isToldBy 6 rfl) rfl fl_Mo_86 Ha (mo_g40 Hf) ?_
    refine gi_iload_n (q := 14) (i := 1) C (dm_Mo_isToldBy 7 rfl) rfl rfl rfl ?_
    refine gi_lald (q := 15) C (dm_Mo_isToldBy 8 rfl) rfl rfl (mo_a40 H) (inN (show tix t < 160 by omega) (by decide)) ?_
    rw [nI_clamp (show tix t < 2 ^ 31 by omega), e40]
    refine gi_aload_n (q := 16) (i := 0) C (dm_Mo_isToldBy 9 rfl) rfl rfl rfl ?_
    refine gi_get (q := 19) C (dm_Mo_isToldBy 10 rfl) rfl fl_Mo_89 Ha (mo_g41 Hf) ?_
    refine gi_iload_n (q := 20) (i := 1) C (dm_Mo_isToldBy 11 rfl) rfl rfl rfl ?_
    refine gi_lald (q := 21) C (dm_Mo_isToldBy 12 rfl) rfl rfl (mo_a41 H) (inN (show tix t < 160 by omega) (by decide)) ?_
    rw [nI_clamp (show tix t < 2 ^ 31 by omega), e41]
    refine gi_aload_n (q := 22) (i := 0) C (dm_Mo_isToldBy 13 rfl) rfl rfl rfl ?_
    refine gi_get (q := 25) C (dm_Mo_isToldBy 14 rfl) rfl fl_Mo_92 Ha (mo_g42 Hf) ?_
    refine gi_iload_n (q := 26) (i := 1) C (dm_Mo_isToldBy 15 rfl) rfl rfl rfl ?_
    refine gi_lald (q := 27) C (dm_Mo_isToldBy 16 rfl) rfl rfl (mo_a42 H) (inN (show tix t < 160 by omega) (by decide)) ?_
    rw [nI_clamp (show tix t < 2 ^ 31 by omega), e42]
    refine gi_iload_n (q := 28) (i := 2) C (dm_Mo_isToldBy 17 rfl) rfl rfl rfl ?_
    refine gi_i2l (q := 29) C (dm_Mo_isToldBy 18 rfl) rfl ?_
    rw [i2l_eL]
    refine gi_calls 4 (q := 32) C (dm_Mo_isToldBy 19 rfl) rfl my_Mo_has lk_Mo_340 sm_Mo_has (c_Mo_has _ v.toInt ok (by omega) (by omega)) rfl rfl ⟨(Nat.le_of_ble_eq_true rfl), (Nat.le_of_ble_eq_true rfl)⟩ (Nat.le_of_ble_eq_true rfl) ⟨(Nat.le_of_ble_eq_true rfl), (Nat.le_of_ble_eq_true rfl)⟩ (fun r29 n29 h29 e29 => ?_)
    obtain ⟨rfl, q29, u29⟩ := e29
    rw [q29, u29]
    refine gi_if_eq (q := 35) (tgt := 39) C (dm_Mo_isToldBy 20 rfl) rfl (by decide) (fun c32 => ?_) (fun c32 => ?_)
    · refine gi_iconst (q := 40) (v := 0) C (dm_Mo_isToldBy 23 rfl) rfl (by decide) ?_
      refine gi_zret C hr (dm_Mo_isToldBy 24 rfl) rfl ?_
      refine ⟨?_, rfl, rfl⟩
      unfold rwT
      first
        | (rw [bI_fa c6]; rfl)
        | (rw [tl, bI_fa c32]; rfl)
        | (rw [tl, bI_t c32]; rfl)
    · refine gi_iconst (q := 36) (v := 1) C (dm_Mo_isToldBy 21 rfl) rfl (by decide) ?_
      refine gi_goto (tgt := 40) C (dm_Mo_isToldBy 22 rfl) (by decide) ?_
      refine gi_zret C hr (dm_Mo_isToldBy 24 rfl) rfl ?_
      refine ⟨?_, rfl, rfl⟩
      unfold rwT
      first
        | (rw [bI_fa c6]; rfl)
        | (rw [tl, bI_fa c32]; rfl)
        | (rw [tl, bI_t c32]; rfl)
end RM1
