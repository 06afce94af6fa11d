-- needs: 89.33
section MA2
variable {l : Launch} {V : gi_V} {n : Nat} {h h' h0 : gi_H} {a pr bu fa gv : Nat} {sx wt : Int32} {Jx : Nat → Int64} {z : Mc}
/-- what a move asks for -/
def mvK (op : Nat) (x : Int32) (n : Nat) : Prop := (op = 0 ∨ op = 3 → n < 14) ∧ (op = 1 → n < 14 ∧ ∃ y, y < 6 ∧ y < n ∧ x = nI y) ∧ (op = 2 → 1 ≤ n ∧ ∃ y, y < 6 ∧ y + 1 < n ∧ x = nI y) ∧ (op = 4 → 1 ≤ n) ∧ (op = 5 → 1 ≤ n ∧ n < 14) ∧ (op = 6 → 2 ≤ n)
set_option maxHeartbeats 4000000 in
set_option maxRecDepth 100000 in
theorem c_Ma_move (op : Nat) (x : Int32) (ho : op ≤ 6) (hk : mvK op x z.cur.n) (Hw : MW a pr bu fa gv h0 sx wt Jx z h) : gi_T l V y_Ma_move b_Ma_move 5 (some .int) 1 21 0 0 [.ref a, .int (nI op), .int x] n h (fun v n' h' => v = some (.int 0) ∧ n' = n ∧ MW a pr bu fa gv h0 sx wt Jx (movZ op x z) h') := by
  refine gi_enter (by decide) (Nat.le_of_ble_eq_true rfl) ?_
  intro _ _ _ _ _ _ _ _ C hr hnm
  obtain ⟨F, J, Q, R⟩ := id Hw
  have t16 := R.1
  have n14 := R.cur.2.2.2.1
  obtain ⟨k0, k1, k2, k4, k5, k6⟩ := hk
  rcases (show op = 0 ∨ op = 1 ∨ op = 2 ∨ op = 3 ∨ op = 4 ∨ op = 5 ∨ op = 6 by omega) with e | e | e | e | e | e | e
  · subst e
    refine gi_iload_n (q := 1) (i := 1) C (dm_Ma_move 0 rfl) rfl rfl rfl ?_
    refine gi_tableIn (off := 39) (tgt := 40) C (dm_Ma_move 1 rfl) (by decide) (by decide) rfl (by decide) ?_
    refine gi_aload_n (q := 41) (i := 0) C (dm_Ma_move 2 rfl) rfl rfl rfl ?_
    refine gi_iload_n (q := 42) (i := 2) C (dm_Ma_move 3 rfl) rfl rfl rfl ?_
    refine gi_callv 1 (q := 45) C (dm_Ma_move 4 rfl) rfl my_Ma_push lk_Ma_171 im_Ma_push rfl (c_Ma_push x (k0 (Or.inl rfl)) Hw) Q.ob rfl rfl ⟨(Nat.le_of_ble_eq_true rfl), (Nat.le_of_ble_eq_true rfl)⟩ (Nat.le_of_ble_eq_true rfl) ⟨(Nat.le_of_ble_eq_true rfl), (Nat.le_of_ble_eq_true rfl)⟩ (fun r42 n42 h42 e42 => ?_)
    obtain ⟨rfl, rfl, W42⟩ := e42
    obtain ⟨F42, J42, Q42, R42⟩ := id W42
    refine gi_goto (tgt := 168) C (dm_Ma_move 5 rfl) (by decide) ?_
    refine gi_iconst (q := 169) (v := 0) C (dm_Ma_move 72 rfl) rfl (by decide) ?_
    refine gi_iret C hr (dm_Ma_move 73 rfl) ?_
    exact ⟨rfl, rfl, W42⟩
  · subst e
    replace k1 := k1 rfl
    obtain ⟨y, y6, yn, rfl⟩ := k1.2
    refine gi_iload_n (q := 1) (i := 1) C (dm_Ma_move 0 rfl) rfl rfl rfl ?_
    refine gi_tableIn (off := 47) (tgt := 48) C (dm_Ma_move 1 rfl) (by decide) (by decide) rfl (by decide) ?_
    refine gi_aload_n (q := 49) (i := 0) C (dm_Ma_move 6 rfl) rfl rfl rfl ?_
    refine gi_aload_n (q := 50) (i := 0) C (dm_Ma_move 7 rfl) rfl rfl rfl ?_
    refine gi_iload_n (q := 51) (i := 2) C (dm_Ma_move 8 rfl) rfl rfl rfl ?_
    refine gi_callv 1 (q := 54) C (dm_Ma_move 9 rfl) rfl my_Ma_hasLocal lk_Ma_174 im_Ma_hasLocal rfl (c_Ma_hasLocal y y6) Q.ob rfl rfl ⟨(Nat.le_of_ble_eq_true rfl), (Nat.le_of_ble_eq_true rfl)⟩ (Nat.le_of_ble_eq_true rfl) ⟨(Nat.le_of_ble_eq_true rfl), (Nat.le_of_ble_eq_true rfl)⟩ (fun r51 n51 h51 e51 => ?_)
    obtain ⟨rfl, q51, u51⟩ := e51
    rw [q51, u51]
    refine gi_if_eq (q := 57) (tgt := 74) C (dm_Ma_move 10 rfl) rfl (by decide) (fun c54 => ?_) (fun c54 => ?_)
    · exact absurd c54 (by decide)
    · refine gi_aload_n (q := 58) (i := 0) C (dm_Ma_move 11 rfl) rfl rfl rfl ?_
      refine gi_get (q := 61) C (dm_Ma_move 12 rfl) rfl fl_Ma_30 Q.ob rfl ?_
      refine gi_aload_n (q := 62) (i := 0) C (dm_Ma_move 13 rfl) rfl rfl rfl ?_
      refine gi_get (q := 65) C (dm_Ma_move 14 rfl) rfl fl_Ma_72 Q.ob rfl ?_
      refine gi_bipush (q := 67) (v := 14) C (dm_Ma_move 15 rfl) rfl (by decide) ?_
      refine gi_imul (q := 68) C (dm_Ma_move 16 rfl) rfl ?_
      rw [show (14 : Int32) = nI 14 from rfl, nI_ml]
      refine gi_iload_n (q := 69) (i := 2) C (dm_Ma_move 17 rfl) rfl rfl rfl ?_
      refine gi_iadd (q := 70) C (dm_Ma_move 18 rfl) rfl ?_
      rw [nI_add]
      refine gi_iald (q := 71) C (dm_Ma_move 19 rfl) rfl rfl Q.a8 (inN (show z.top * 14 + y < 224 by omega) (by decide)) ?_
      rw [nI_clamp (by omega), Nat.mul_comm z.top 14, R.cur.2.2.2.2 y yn]
      refine gi_goto (tgt := 75) C (dm_Ma_move 20 rfl) (by decide) ?_
      refine gi_callv 1 (q := 78) C (dm_Ma_move 22 rfl) rfl my_Ma_push lk_Ma_171 im_Ma_push rfl (c_Ma_push _ k1.1 Hw) Q.ob rfl rfl ⟨(Nat.le_of_ble_eq_true rfl), (Nat.le_of_ble_eq_true rfl)⟩ (Nat.le_of_ble_eq_true rfl) ⟨(Nat.le_of_ble_eq_true rfl), (Nat.le_of_ble_eq_true rfl)⟩ (fun r75 n75 h75 e75 => ?_)
      obtain ⟨rfl, rfl, W75⟩ := e75
      obtain ⟨F75, J75, Q75, R75⟩ := id W75
      refine gi_goto (tgt := 168) C (dm_Ma_move 23 rfl) (by decide) ?_
      refine gi_iconst (q := 169) (v := 0) C (dm_Ma_move 72 rfl) rfl (by decide) ?_
      refine gi_iret C hr (dm_Ma_move 73 rfl) ?_
      rw [show movZ 1 (nI y) z = pshZ z (z.cur.s y) from by
        show pshZ z (z.cur.s (nI y).toNatClampNeg) = _
        rw [nI_clamp (by omega)]]
      exact ⟨rfl, rfl, W75⟩
  · subst e
    replace k2 := k2 rfl
    obtain ⟨y, y6, yn, rfl⟩ := k2.2
    refine gi_iload_n (q := 1) (i := 1) C (dm_Ma_move 0 rfl) rfl rfl rfl ?_
    refine gi_tableIn (off := 80) (tgt := 81) C (dm_Ma_move 1 rfl) (by decide) (by decide) rfl (by decide) ?_
    refine gi_aload_n (q := 82) (i := 0) C (dm_Ma_move 24 rfl) rfl rfl rfl ?_
    refine gi_callv 0 (q := 85) C (dm_Ma_move 25 rfl) rfl my_Ma_pop lk_Ma_177 im_Ma_pop rfl (c_Ma_pop k2.1 Hw) Q.ob rfl rfl ⟨(Nat.le_of_ble_eq_true rfl), (Nat.le_of_ble_eq_true rfl)⟩ (Nat.le_of_ble_eq_true rfl) ⟨(Nat.le_of_ble_eq_true rfl), (Nat.le_of_ble_eq_true rfl)⟩ (fun r82 n82 h82 e82 => ?_)
    obtain ⟨rfl, rfl, W82⟩ := e82
    obtain ⟨F82, J82, Q82, R82⟩ := id W82
    refine gi_istore_n (q := 86) (i := 3) C (dm_Ma_move 26 rfl) rfl rfl (Nat.le_of_ble_eq_true rfl) ?_
    refine gi_aload_n (q := 87) (i := 0) C (dm_Ma_move 27 rfl) rfl rfl rfl ?_
    refine gi_iload_n (q := 88) (i := 2) C (dm_Ma_move 28 rfl) rfl rfl rfl ?_
    refine gi_callv 1 (q := 91) C (dm_Ma_move 29 rfl) rfl my_Ma_hasLocal lk_Ma_174 im_Ma_hasLocal rfl (c_Ma_hasLocal y y6) Q82.ob rfl rfl ⟨(Nat.le_of_ble_eq_true rfl), (Nat.le_of_ble_eq_true rfl)⟩ (Nat.le_of_ble_eq_true rfl) ⟨(Nat.le_of_ble_eq_true rfl), (Nat.le_of_ble_eq_true rfl)⟩ (fun r88 n88 h88 e88 => ?_)
    obtain ⟨rfl, q88, u88⟩ := e88
    rw [q88, u88]
    refine gi_if_eq (q := 94) (tgt := 168) C (dm_Ma_move 30 rfl) rfl (by decide) (fun c91 => ?_) (fun c91 => ?_)
    · exact absurd c91 (by decide)
    · refine gi_aload_n (q := 95) (i := 0) C (dm_Ma_move 31 rfl) rfl rfl rfl ?_
      refine gi_get (q := 98) C (dm_Ma_move 32 rfl) rfl fl_Ma_30 Q82.ob rfl ?_
      refine gi_aload_n (q := 99) (i := 0) C (dm_Ma_move 33 rfl) rfl rfl rfl ?_
      refine gi_get (q := 102) C (dm_Ma_move 34 rfl) rfl fl_Ma_72 Q82.ob rfl ?_
      refine gi_bipush (q := 104) (v := 14) C (dm_Ma_move 35 rfl) rfl (by decide) ?_
      refine gi_imul (q := 105) C (dm_Ma_move 36 rfl) rfl ?_
      rw [show (14 : Int32) = nI 14 from rfl, nI_ml]
      refine gi_iload_n (q := 106) (i := 2) C (dm_Ma_move 37 rfl) rfl rfl rfl ?_
      refine gi_iadd (q := 107) C (dm_Ma_move 38 rfl) rfl ?_
      rw [nI_add]
      refine gi_iload_n (q := 108) (i := 3) C (dm_Ma_move 39 rfl) rfl rfl rfl ?_
      refine gi_iast (q := 109) C (dm_Ma_move 40 rfl) rfl rfl Q82.a8 (inN (show z.top * 14 + y < 224 by omega) (by decide)) ?_
      rw [nI_clamp (show (popZ z).top * 14 + y < 2 ^ 31 from by show z.top * 14 + y < 2 ^ 31; omega), Nat.mul_comm _ 14]
      refine gi_goto (tgt := 168) C (dm_Ma_move 41 rfl) (by decide) ?_
      refine gi_iconst (q := 169) (v := 0) C (dm_Ma_move 72 rfl) rfl (by decide) ?_
      refine gi_iret C hr (dm_Ma_move 73 rfl) ?_
      rw [show movZ 2 (nI y) z = locZ (popZ z) y (topV z) from by
        show locZ (popZ z) (nI y).toNatClampNeg (topV z) = _
        rw [nI_clamp (by omega)]]
      exact ⟨rfl, rfl, MW.loc (by rw [cur_pop]; show y < z.cur.n - 1; omega) Q82 R82⟩
  · subst e
    refine gi_iload_n (q := 1) (i := 1) C (dm_Ma_move 0 rfl) rfl rfl rfl ?_
    refine gi_tableIn (off := 111) (tgt := 112) C (dm_Ma_move 1 rfl) (by decide) (by decide) rfl (by decide) ?_
    refine gi_aload_n (q := 113) (i := 0) C (dm_Ma_move 42 rfl) rfl rfl rfl ?_
    refine gi_iconst (q := 114) (v := 0) C (dm_Ma_move 43 rfl) rfl (by decide) ?_
    refine gi_callv 1 (q := 117) C (dm_Ma_move 44 rfl) rfl my_Ma_push lk_Ma_171 im_Ma_push rfl (c_Ma_push 0 (k0 (Or.inr rfl)) Hw) Q.ob rfl rfl ⟨(Nat.le_of_ble_eq_true rfl), (Nat.le_of_ble_eq_true rfl)⟩ (Nat.le_of_ble_eq_true rfl) ⟨(Nat.le_of_ble_eq_true rfl), (Nat.le_of_ble_eq_true rfl)⟩ (fun r114 n114 h114 e114 => ?_)
    obtain ⟨rfl, rfl, W114⟩ := e114
    obtain ⟨F114, J114, Q114, R114⟩ := id W114
    refine gi_goto (tgt := 168) C (dm_Ma_move 45 rfl) (by decide) ?_
    refine gi_iconst (q := 169) (v := 0) C (dm_Ma_move 72 rfl) rfl (by decide) ?_
    refine gi_iret C hr (dm_Ma_move 73 rfl) ?_
    exact ⟨rfl, rfl, W114⟩
  · subst e
    refine gi_iload_n (q := 1) (i := 1) C (dm_Ma_move 0 rfl) rfl rfl rfl ?_
    refine gi_tableIn (off := 119) (tgt := 120) C (dm_Ma_move 1 rfl) (by decide) (by decide) rfl (by decide) ?_
    refine gi_aload_n (q := 121) (i := 0) C (dm_Ma_move 46 rfl) rfl rfl rfl ?_
    refine gi_callv 0 (q := 124) C (dm_Ma_move 47 rfl) rfl my_Ma_pop lk_Ma_177 im_Ma_pop rfl (c_Ma_pop (k4 rfl) Hw) Q.ob rfl rfl ⟨(Nat.le_of_ble_eq_true rfl), (Nat.le_of_ble_eq_true rfl)⟩ (Nat.le_of_ble_eq_true rfl) ⟨(Nat.le_of_ble_eq_true rfl), (Nat.le_of_ble_eq_true rfl)⟩ (fun r121 n121 h121 e121 => ?_)
    obtain ⟨rfl, rfl, W121⟩ := e121
    obtain ⟨F121, J121, Q121, R121⟩ := id W121
    refine gi_pop (q := 125) C (dm_Ma_move 48 rfl) rfl rfl ?_
    refine gi_goto (tgt := 168) C (dm_Ma_move 49 rfl) (by decide) ?_
    refine gi_iconst (q := 169) (v := 0) C (dm_Ma_move 72 rfl) rfl (by decide) ?_
    refine gi_iret C hr (dm_Ma_move 73 rfl) ?_
    exact ⟨rfl, rfl, W121⟩
  · subst e
    refine gi_iload_n (q := 1) (i := 1) C (dm_Ma_move 0 rfl) rfl rfl rfl ?_
    refine gi_tableIn (off := 127) (tgt := 128) C (dm_Ma_move 1 rfl) (by decide) (by decide) rfl (by decide) ?_
    refine gi_aload_n (q := 129) (i := 0) C (dm_Ma_move 50 rfl) rfl rfl rfl ?_
    refine gi_callv 0 (q := 132) C (dm_Ma_move 51 rfl) rfl my_Ma_pop lk_Ma_177 im_Ma_pop rfl (c_Ma_pop (k5 rfl).1 Hw) Q.ob rfl rfl ⟨(Nat.le_of_ble_eq_true rfl), (Nat.le_of_ble_eq_true rfl)⟩ (Nat.le_of_ble_eq_true rfl) ⟨(Nat.le_of_ble_eq_true rfl), (Nat.le_of_ble_eq_true rfl)⟩ (fun r129 n129 h129 e129 => ?_)
    obtain ⟨rfl, rfl, W129⟩ := e129
    obtain ⟨F129, J129, Q129, R129⟩ := id W129
    refine gi_istore_n (q := 133) (i := 3) C (dm_Ma_move 52 rfl) rfl rfl (Nat.le_of_ble_eq_true rfl) ?_
    refine gi_aload_n (q := 134) (i := 0) C (dm_Ma_move 53 rfl) rfl rfl rfl ?_
    refine gi_iload_n (q := 135) (i := 3) C (dm_Ma_move 54 rfl) rfl rfl rfl ?_
    refine gi_callv 1 (q := 138) C (dm_Ma_move 55 rfl) rfl my_Ma_push lk_Ma_171 im_Ma_push rfl (c_Ma_push _ (by rw [cur_pop]; show z.cur.n - 1 < 14; omega) W129) Q129.ob rfl rfl ⟨(Nat.le_of_ble_eq_true rfl), (Nat.le_of_ble_eq_true rfl)⟩ (Nat.le_of_ble_eq_true rfl) ⟨(Nat.le_of_ble_eq_true rfl), (Nat.le_of_ble_eq_true rfl)⟩ (fun r135 n135 h135 e135 => ?_)
    obtain ⟨rfl, rfl, W135⟩ := e135
    obtain ⟨F135, J135, Q135, R135⟩ := id W135
    refine gi_aload_n (q := 139) (i := 0) C (dm_Ma_move 56 rfl) rfl rfl rfl ?_
    refine gi_iload_n (q := 140) (i := 3) C (dm_Ma_move 57 rfl) rfl rfl rfl ?_
    refine gi_callv 1 (q := 143) C (dm_Ma_move 58 rfl) rfl my_Ma_push lk_Ma_171 im_Ma_push rfl (c_Ma_push _ (by rw [cur_psh, cur_pop]; show z.cur.n - 1 + 1 < 14; have := (k5 rfl); omega) W135) Q135.ob rfl rfl ⟨(Nat.le_of_ble_eq_true rfl), (Nat.le_of_ble_eq_true rfl)⟩ (Nat.le_of_ble_eq_true rfl) ⟨(Nat.le_of_ble_eq_true rfl), (Nat.le_of_ble_eq_true rfl)⟩ (fun r140 n140 h140 e140 => ?_)
    obtain ⟨rfl, rfl, W140⟩ := e140
    obtain ⟨F140, J140, Q140, R140⟩ := id W140
    refine gi_goto (tgt := 168) C (dm_Ma_move 59 rfl) (by decide) ?_
    refine gi_iconst (q := 169) (v := 0) C (dm_Ma_move 72 rfl) rfl (by decide) ?_
    refine gi_iret C hr (dm_Ma_move 73 rfl) ?_
    exact ⟨rfl, rfl, W140⟩
  · subst e
    refine gi_iload_n (q := 1) (i := 1) C (dm_Ma_move 0 rfl) rfl rfl rfl ?_
    refine gi_tableOut (tgt := 146) C (dm_Ma_move 1 rfl) (lo := 0) (hi := 5) (by decide) (by decide) ?_
    refine gi_aload_n (q := 147) (i := 0) C (dm_Ma_move 60 rfl) rfl rfl rfl ?_
    refine gi_callv 0 (q := 150) C (dm_Ma_move 61 rfl) rfl my_Ma_pop lk_Ma_177 im_Ma_pop rfl (c_Ma_pop (by have := k6 rfl; omega) Hw) Q.ob rfl rfl ⟨(Nat.le_of_ble_eq_true rfl), (Nat.le_of_ble_eq_true rfl)⟩ (Nat.le_of_ble_eq_true rfl) ⟨(Nat.le_of_ble_eq_true rfl), (Nat.le_of_ble_eq_true rfl)⟩ (fun r147 n147 h147 e147 => ?_)
    obtain ⟨rfl, rfl, W147⟩ := e147
    obtain ⟨F147, J147, Q147, R147⟩ := id W147
    refine gi_istore_n (q := 151) (i := 3) C (dm_Ma_move 62 rfl) rfl rfl (Nat.le_of_ble_eq_true rfl) ?_
    refine gi_aload_n (q := 152) (i := 0) C (dm_Ma_move 63 rfl) rfl rfl rfl ?_
    refine gi_callv 0 (q := 155) C (dm_Ma_move 64 rfl) rfl my_Ma_pop lk_Ma_177 im_Ma_pop rfl (c_Ma_pop (by rw [cur_pop]; show 1 ≤ z.cur.n - 1; have := k6 rfl; omega) W147) Q147.ob rfl rfl ⟨(Nat.le_of_ble_eq_true rfl), (Nat.le_of_ble_eq_true rfl)⟩ (Nat.le_of_ble_eq_true rfl) ⟨(Nat.le_of_ble_eq_true rfl), (Nat.le_of_ble_eq_true rfl)⟩ (fun r152 n152 h152 e152 => ?_)
    obtain ⟨rfl, rfl, W152⟩ := e152
    obtain ⟨F152, J152, Q152, R152⟩ := id W152
    refine gi_istore (q := 157) C (dm_Ma_move 65 rfl) rfl (Nat.le_of_ble_eq_true rfl) ?_
    refine gi_aload_n (q := 158) (i := 0) C (dm_Ma_move 66 rfl) rfl rfl rfl ?_
    refine gi_iload_n (q := 159) (i := 3) C (dm_Ma_move 67 rfl) rfl rfl rfl ?_
    refine gi_callv 1 (q := 162) C (dm_Ma_move 68 rfl) rfl my_Ma_push lk_Ma_171 im_Ma_push rfl (c_Ma_push _ (by rw [cur_pop, cur_pop]; show z.cur.n - 1 - 1 < 14; omega) W152) Q152.ob rfl rfl ⟨(Nat.le_of_ble_eq_true rfl), (Nat.le_of_ble_eq_true rfl)⟩ (Nat.le_of_ble_eq_true rfl) ⟨(Nat.le_of_ble_eq_true rfl), (Nat.le_of_ble_eq_true rfl)⟩ (fun r159 n159 h159 e159 => ?_)
    obtain ⟨rfl, rfl, W159⟩ := e159
    obtain ⟨F159, J159, Q159, R159⟩ := id W159
    refine gi_aload_n (q := 163) (i := 0) C (dm_Ma_move 69 rfl) rfl rfl rfl ?_
    refine gi_iload (q := 165) C (dm_Ma_move 70 rfl) rfl rfl ?_
    refine gi_callv 1 (q := 168) C (dm_Ma_move 71 rfl) rfl my_Ma_push lk_Ma_171 im_Ma_push rfl (c_Ma_push _ (by rw [cur_psh, cur_pop, cur_pop]; show z.cur.n - 1 - 1 + 1 < 14; omega) W159) Q159.ob rfl rfl ⟨(Nat.le_of_ble_eq_true rfl), (Nat.le_of_ble_eq_true rfl)⟩ (Nat.le_of_ble_eq_true rfl) ⟨(Nat.le_of_ble_eq_true rfl), (Nat.le_of_ble_eq_true rfl)⟩ (fun r165 n165 h165 e165 => ?_)
    obtain ⟨rfl, rfl, W165⟩ := e165
    obtain ⟨F165, J165, Q165, R165⟩ := id W165
    refine gi_iconst (q := 169) (v := 0) C (dm_Ma_move 72 rfl) rfl (by decide) ?_
    refine gi_iret C hr (dm_Ma_move 73 rfl) ?_
    exact ⟨rfl, rfl, W165⟩
set_option maxHeartbeats 4000000 in
set_option maxRecDepth 100000 in
theorem c_Ma_reckoned (op : Nat) (x y : Int32) (h7 : 7 ≤ op) (h17 : op ≤ 17) (h10 : op ≠ 10) (h11 : op ≠ 11) : gi_T l V y_Ma_reckoned b_Ma_reckoned 3 (some .int) 0 0 0 0 [.int (nI op), .int x, .int y] n h (gi_is (some (.int (rckI op x y))) n h) := by
  refine gi_enter (by decide) (Nat.le_of_ble_eq_true rfl) ?_
  intro _ _ _ _ _ _ _ _ C hr hnm
  rcases (show op = 7 ∨ op = 8 ∨ op = 9 ∨ op = 12 ∨ op = 13 ∨ op = 14 ∨ op = 15 ∨ op = 16 ∨ op = 17 by omega) with e | e | e | e | e | e | e | e | e
  · subst e
    refine gi_iload_n (q := 1) (i := 0) C (dm_Ma_reckoned 0 rfl) rfl rfl rfl ?_
    refine gi_tableIn (off := 55) (tgt := 56) C (dm_Ma_reckoned 1 rfl) (by decide) (by decide) rfl (by decide) ?_
    refine gi_iload_n (q := 57) (i := 1) C (dm_Ma_reckoned 2 rfl) rfl rfl rfl ?_
    refine gi_iload_n (q := 58) (i := 2) C (dm_Ma_reckoned 3 rfl) rfl rfl rfl ?_
    refine gi_iadd (q := 59) C (dm_Ma_reckoned 4 rfl) rfl ?_
    refine gi_iret C hr (dm_Ma_reckoned 5 rfl) ?_
    exact ⟨rfl, rfl, rfl⟩
  · subst e
    refine gi_iload_n (q := 1) (i := 0) C (dm_Ma_reckoned 0 rfl) rfl rfl rfl ?_
    refine gi_tableIn (off := 59) (tgt := 60) C (dm_Ma_reckoned 1 rfl) (by decide) (by decide) rfl (by decide) ?_
    refine gi_iload_n (q := 61) (i := 1) C (dm_Ma_reckoned 6 rfl) rfl rfl rfl ?_
    refine gi_iload_n (q := 62) (i := 2) C (dm_Ma_reckoned 7 rfl) rfl rfl rfl ?_
    refine gi_isub (q := 63) C (dm_Ma_reckoned 8 rfl) rfl ?_
    refine gi_iret C hr (dm_Ma_reckoned 9 rfl) ?_
    exact ⟨rfl, rfl, rfl⟩
  · subst e
    refine gi_iload_n (q := 1) (i := 0) C (dm_Ma_reckoned 0 rfl) rfl rfl rfl ?_
    refine gi_tableIn (off := 63) (tgt := 64) C (dm_Ma_reckoned 1 rfl) (by decide) (by decide) rfl (by decide) ?_
    refine gi_iload_n (q := 65) (i := 1) C (dm_Ma_reckoned 10 rfl) rfl rfl rfl ?_
    refine gi_iload_n (q := 66) (i := 2) C (dm_Ma_reckoned 11 rfl) rfl rfl rfl ?_
    refine gi_imul (q := 67) C (dm_Ma_reckoned 12 rfl) rfl ?_
    refine gi_iret C hr (dm_Ma_reckoned 13 rfl) ?_
    exact ⟨rfl, rfl, rfl⟩
  · subst e
    refine gi_iload_n (q := 1) (i := 0) C (dm_Ma_reckoned 0 rfl) rfl rfl rfl ?_
    refine gi_tableIn (off := 67) (tgt := 68) C (dm_Ma_reckoned 1 rfl) (by decide) (by decide) rfl (by decide) ?_
    refine gi_iload_n (q := 69) (i := 1) C (dm_Ma_reckoned 14 rfl) rfl rfl rfl ?_
    refine gi_iload_n (q := 70) (i := 2) C (dm_Ma_reckoned 15 rfl) rfl rfl rfl ?_
    refine gi_iand (q := 71) C (dm_Ma_reckoned 16 rfl) rfl ?_
    refine gi_iret C hr (dm_Ma_reckoned 17 rfl) ?_
    exact ⟨rfl, rfl, rfl⟩
  · subst e
    refine gi_iload_n (q := 1) (i := 0) C (dm_Ma_reckoned 0 rfl) rfl rfl rfl ?_
    refine gi_tableIn (off := 71) (tgt := 72) C (dm_Ma_reckoned 1 rfl) (by decide) (by decide) rfl (by decide) ?_
    refine gi_iload_n (q := 73) (i := 1) C (dm_Ma_reckoned 18 rfl) rfl rfl rfl ?_
    refine gi_iload_n (q := 74) (i := 2) C (dm_Ma_reckoned 19 rfl) rfl rfl rfl ?_
    refine gi_ior (q := 75) C (dm_Ma_reckoned 20 rfl) rfl ?_
    refine gi_iret C hr (dm_Ma_reckoned 21 rfl) ?_
    exact ⟨rfl, rfl, rfl⟩
  · subst e
    refine gi_iload_n (q := 1) (i := 0) C (dm_Ma_reckoned 0 rfl) rfl rfl rfl ?_
    refine gi_tableIn (off := 75) (tgt := 76) C (dm_Ma_reckoned 1 rfl) (by decide) (by decide) rfl (by decide) ?_
    refine gi_iload_n (q := 77) (i := 1) C (dm_Ma_reckoned 22 rfl) rfl rfl rfl ?_
    refine gi_iload_n (q := 78) (i := 2) C (dm_Ma_reckoned 23 rfl) rfl rfl rfl ?_
    refine gi_ixor (q := 79) C (dm_Ma_reckoned 24 rfl) rfl ?_
    refine gi_iret C hr (dm_Ma_reckoned 25 rfl) ?_
    exact ⟨rfl, rfl, rfl⟩
  · subst e
    refine gi_iload_n (q := 1) (i := 0) C (dm_Ma_reckoned 0 rfl) rfl rfl rfl ?_
    refine gi_tableIn (off := 79) (tgt := 80) C (dm_Ma_reckoned 1 rfl) (by decide) (by decide) rfl (by decide) ?_
    refine gi_iload_n (q := 81) (i := 1) C (dm_Ma_reckoned 26 rfl) rfl rfl rfl ?_
    refine gi_iload_n (q := 82) (i := 2) C (dm_Ma_reckoned 27 rfl) rfl rfl rfl ?_
    refine gi_ishl (q := 83) C (dm_Ma_reckoned 28 rfl) rfl ?_
    refine gi_iret C hr (dm_Ma_reckoned 29 rfl) ?_
    exact ⟨rfl, rfl, rfl⟩
  · subst e
    refine gi_iload_n (q := 1) (i := 0) C (dm_Ma_reckoned 0 rfl) rfl rfl rfl ?_
    refine gi_tableIn (off := 83) (tgt := 84) C (dm_Ma_reckoned 1 rfl) (by decide) (by decide) rfl (by decide) ?_
    refine gi_iload_n (q := 85) (i := 1) C (dm_Ma_reckoned 30 rfl) rfl rfl rfl ?_
    refine gi_iload_n (q := 86) (i := 2) C (dm_Ma_reckoned 31 rfl) rfl rfl rfl ?_
    refine gi_ishr (q := 87) C (dm_Ma_reckoned 32 rfl) rfl ?_
    refine gi_iret C hr (dm_Ma_reckoned 33 rfl) ?_
    exact ⟨rfl, rfl, rfl⟩
  · subst e
    refine gi_iload_n (q := 1) (i := 0) C (dm_Ma_reckoned 0 rfl) rfl rfl rfl ?_
    refine gi_tableOut (tgt := 88) C (dm_Ma_reckoned 1 rfl) (lo := 7) (hi := 16) (by decide) (by decide) ?_
    refine gi_iload_n (q := 89) (i := 1) C (dm_Ma_reckoned 34 rfl) rfl rfl rfl ?_
    refine gi_iload_n (q := 90) (i := 2) C (dm_Ma_reckoned 35 rfl) rfl rfl rfl ?_
    refine gi_iushr (q := 91) C (dm_Ma_reckoned 36 rfl) rfl ?_
    refine gi_iret C hr (dm_Ma_reckoned 37 rfl) ?_
    exact ⟨rfl, rfl, rfl⟩
set_option maxHeartbeats 4000000 in
set_option maxRecDepth 100000 in
theorem c_Ma_reckon (op : Nat) (h7 : 7 ≤ op) (h18 : op ≤ 18) (hn : 1 ≤ z.cur.n) (hn2 : op ≠ 18 → 2 ≤ z.cur.n) (Hw : MW a pr bu fa gv h0 sx wt Jx z h) : gi_T l V y_Ma_reckon b_Ma_reckon 4 (some .int) 1 22 0 0 [.ref a, .int (nI op)] n h (fun v n' h' => v = some (.int (rckZ op z).2) ∧ n' = n ∧ MW a pr bu fa gv h0 sx wt Jx (rckZ op z).1 h') := by
  refine gi_enter (by decide) (Nat.le_of_ble_eq_true rfl) ?_
  intro _ _ _ _ _ _ _ _ C hr hnm
  obtain ⟨F, J, Q, R⟩ := id Hw
  have t16 := R.1
  have n14 := R.cur.2.2.2.1
  have jo10 : (nI op = 10) = (op = 10) := nI_eqP (b := 10) (by omega) (by decide)
  have jo11 : (nI op = 11) = (op = 11) := nI_eqP (b := 11) (by omega) (by decide)
  have jo18 : (nI op = 18) = (op = 18) := nI_eqP (b := 18) (by omega) (by decide)
  refine gi_aload_n (q := 1) (i := 0) C (dm_Ma_reckon 0 rfl) rfl rfl rfl ?_
  refine gi_callv 0 (q := 4) C (dm_Ma_reckon 1 rfl) rfl my_Ma_pop lk_Ma_177 im_Ma_pop rfl (c_Ma_pop hn Hw) Q.ob rfl rfl ⟨(Nat.le_of_ble_eq_true rfl), (Nat.le_of_ble_eq_true rfl)⟩ (Nat.le_of_ble_eq_true rfl) ⟨(Nat.le_of_ble_eq_true rfl), (Nat.le_of_ble_eq_true rfl)⟩ (fun r1 n1 h1 e1 => ?_)
  obtain ⟨rfl, rfl, W1⟩ := e1
  obtain ⟨F1, J1, Q1, R1⟩ := id W1
  refine gi_istore_n (q := 5) (i := 2) C (dm_Ma_reckon 2 rfl) rfl rfl (Nat.le_of_ble_eq_true rfl) ?_
  refine gi_iload_n (q := 6) (i := 1) C (dm_Ma_reckon 3 rfl) rfl rfl rfl ?_
  refine gi_bipush (q := 8) (v := 18) C (dm_Ma_reckon 4 rfl) rfl (by decide) ?_
  refine gi_icmp_ne (q := 11) (tgt := 19) C (dm_Ma_reckon 5 rfl) rfl (by decide) (fun c8 => ?_) (fun c8 => ?_)
  · skip
    refine gi_aload_n (q := 20) (i := 0) C (dm_Ma_reckon 12 rfl) rfl rfl rfl ?_
    refine gi_callv 0 (q := 23) C (dm_Ma_reckon 13 rfl) rfl my_Ma_pop lk_Ma_177 im_Ma_pop rfl (c_Ma_pop (by rw [cur_pop]; show 1 ≤ z.cur.n - 1; rw [jo18] at c8; have := hn2 c8; omega) W1) Q1.ob rfl rfl ⟨(Nat.le_of_ble_eq_true rfl), (Nat.le_of_ble_eq_true rfl)⟩ (Nat.le_of_ble_eq_true rfl) ⟨(Nat.le_of_ble_eq_true rfl), (Nat.le_of_ble_eq_true rfl)⟩ (fun r20 n20 h20 e20 => ?_)
    obtain ⟨rfl, rfl, W20⟩ := e20
    obtain ⟨F20, J20, Q20, R20⟩ := id W20
    refine gi_istore_n (q := 24) (i := 3) C (dm_Ma_reckon 14 rfl) rfl rfl (Nat.le_of_ble_eq_true rfl) ?_
    have o18 : op ≠ 18 := by rw [jo18] at c8; exact c8
    refine gi_iload_n (q := 25) (i := 1) C (dm_Ma_reckon 15 rfl) rfl rfl rfl ?_
    refine gi_bipush (q := 27) (v := 10) C (dm_Ma_reckon 16 rfl) rfl (by decide) ?_
    refine gi_icmp_eq (q := 30) (tgt := 36) C (dm_Ma_reckon 17 rfl) rfl (by decide) (fun c27 => ?_) (fun c27 => ?_)
    · refine gi_iload_n (q := 37) (i := 2) C (dm_Ma_reckon 21 rfl) rfl rfl rfl ?_
      refine gi_if_ne (q := 40) (tgt := 46) C (dm_Ma_reckon 22 rfl) rfl (by decide) (fun c37 => ?_) (fun c37 => ?_)
      · refine gi_aload_n (q := 47) (i := 0) C (dm_Ma_reckon 27 rfl) rfl rfl rfl ?_
        refine gi_iload_n (q := 48) (i := 1) C (dm_Ma_reckon 28 rfl) rfl rfl rfl ?_
        refine gi_bipush (q := 50) (v := 10) C (dm_Ma_reckon 29 rfl) rfl (by decide) ?_
        refine gi_icmp_ne (q := 53) (tgt := 59) C (dm_Ma_reckon 30 rfl) rfl (by decide) (fun c50 => ?_) (fun c50 => ?_)
        · refine gi_iload_n (q := 60) (i := 3) C (dm_Ma_reckon 35 rfl) rfl rfl rfl ?_
          refine gi_iload_n (q := 61) (i := 2) C (dm_Ma_reckon 36 rfl) rfl rfl rfl ?_
          refine gi_irem (q := 62) C (dm_Ma_reckon 37 rfl) rfl c37 ?_
          refine gi_callv 1 (q := 65) C (dm_Ma_reckon 38 rfl) rfl my_Ma_push lk_Ma_171 im_Ma_push rfl (c_Ma_push _ (by rw [cur_pop, cur_pop]; show z.cur.n - 1 - 1 < 14; omega) W20) Q20.ob rfl rfl ⟨(Nat.le_of_ble_eq_true rfl), (Nat.le_of_ble_eq_true rfl)⟩ (Nat.le_of_ble_eq_true rfl) ⟨(Nat.le_of_ble_eq_true rfl), (Nat.le_of_ble_eq_true rfl)⟩ (fun r62 n62 h62 e62 => ?_)
          obtain ⟨rfl, rfl, W62⟩ := e62
          obtain ⟨F62, J62, Q62, R62⟩ := id W62
          refine gi_iconst (q := 66) (v := 0) C (dm_Ma_reckon 39 rfl) rfl (by decide) ?_
          refine gi_iret C hr (dm_Ma_reckon 40 rfl) ?_
          rw [show rckZ op z = (pshZ (popZ (popZ z)) (rckI op (topV (popZ z)) (topV z)), 0) from by
            unfold rckZ
            rw [if_neg o18, if_neg (fun q => c37 q.2)]]
          first
            | (rw [jo10] at c50; subst c50; exact ⟨rfl, rfl, W62⟩)
            | (rw [jo11] at c33; subst c33; exact ⟨rfl, rfl, W62⟩)
            | (rw [jo10] at c27; rw [jo10] at c50; exact absurd c27 c50)
        · refine gi_iload_n (q := 54) (i := 3) C (dm_Ma_reckon 31 rfl) rfl rfl rfl ?_
          refine gi_iload_n (q := 55) (i := 2) C (dm_Ma_reckon 32 rfl) rfl rfl rfl ?_
          refine gi_idiv (q := 56) C (dm_Ma_reckon 33 rfl) rfl c37 ?_
          refine gi_goto (tgt := 62) C (dm_Ma_reckon 34 rfl) (by decide) ?_
          refine gi_callv 1 (q := 65) C (dm_Ma_reckon 38 rfl) rfl my_Ma_push lk_Ma_171 im_Ma_push rfl (c_Ma_push _ (by rw [cur_pop, cur_pop]; show z.cur.n - 1 - 1 < 14; omega) W20) Q20.ob rfl rfl ⟨(Nat.le_of_ble_eq_true rfl), (Nat.le_of_ble_eq_true rfl)⟩ (Nat.le_of_ble_eq_true rfl) ⟨(Nat.le_of_ble_eq_true rfl), (Nat.le_of_ble_eq_true rfl)⟩ (fun r62 n62 h62 e62 => ?_)
          obtain ⟨rfl, rfl, W62⟩ := e62
          obtain ⟨F62, J62, Q62, R62⟩ := id W62
          refine gi_iconst (q := 66) (v := 0) C (dm_Ma_reckon 39 rfl) rfl (by decide) ?_
          refine gi_iret C hr (dm_Ma_reckon 40 rfl) ?_
          rw [show rckZ op z = (pshZ (popZ (popZ z)) (rckI op (topV (popZ z)) (topV z)), 0) from by
            unfold rckZ
            rw [if_neg o18, if_neg (fun q => c37 q.2)]]
          first
            | (rw [jo10] at c50; subst c50; exact ⟨rfl, rfl, W62⟩)
            | (rw [jo11] at c33; subst c33; exact ⟨rfl, rfl, W62⟩)
            | (rw [jo10] at c27; rw [jo10] at c50; exact absurd c27 c50)
      · refine gi_aload_n (q := 41) (i := 0) C (dm_Ma_reckon 23 rfl) rfl rfl rfl ?_
        refine gi_iconst (q := 42) (v := 1) C (dm_Ma_reckon 24 rfl) rfl (by decide) ?_
        refine gi_callv 1 (q := 45) C (dm_Ma_reckon 25 rfl) rfl my_Ma_goWrong lk_Ma_180 im_Ma_goWrong rfl (c_Ma_goWrong 1 W20) Q20.ob rfl rfl ⟨(Nat.le_of_ble_eq_true rfl), (Nat.le_of_ble_eq_true rfl)⟩ (Nat.le_of_ble_eq_true rfl) ⟨(Nat.le_of_ble_eq_true rfl), (Nat.le_of_ble_eq_true rfl)⟩ (fun r42 n42 h42 e42 => ?_)
        obtain ⟨rfl, rfl, W42⟩ := e42
        obtain ⟨F42, J42, Q42, R42⟩ := id W42
        refine gi_iret C hr (dm_Ma_reckon 26 rfl) ?_
        rw [show rckZ op z = (wrgZ (popZ (popZ z)) 1, 2) from by
          unfold rckZ
          rw [if_neg o18, if_pos ⟨by first | (left; rw [jo10] at c27; exact c27) | (right; rw [jo11] at c33; exact c33), c37⟩]]
        exact ⟨rfl, rfl, W42⟩
    · refine gi_iload_n (q := 31) (i := 1) C (dm_Ma_reckon 18 rfl) rfl rfl rfl ?_
      refine gi_bipush (q := 33) (v := 11) C (dm_Ma_reckon 19 rfl) rfl (by decide) ?_
      refine gi_icmp_ne (q := 36) (tgt := 67) C (dm_Ma_reckon 20 rfl) rfl (by decide) (fun c33 => ?_) (fun c33 => ?_)
      · refine gi_aload_n (q := 68) (i := 0) C (dm_Ma_reckon 41 rfl) rfl rfl rfl ?_
        refine gi_iload_n (q := 69) (i := 1) C (dm_Ma_reckon 42 rfl) rfl rfl rfl ?_
        refine gi_iload_n (q := 70) (i := 3) C (dm_Ma_reckon 43 rfl) rfl rfl rfl ?_
        refine gi_iload_n (q := 71) (i := 2) C (dm_Ma_reckon 44 rfl) rfl rfl rfl ?_
        refine gi_calls 3 (q := 74) C (dm_Ma_reckon 45 rfl) rfl my_Ma_reckoned lk_Ma_183 sm_Ma_reckoned (c_Ma_reckoned op _ _ h7 (by rw [jo18] at c8; omega) (by rw [jo10] at c27; exact c27) (by rw [jo11] at c33; exact c33)) rfl rfl ⟨(Nat.le_of_ble_eq_true rfl), (Nat.le_of_ble_eq_true rfl)⟩ (Nat.le_of_ble_eq_true rfl) ⟨(Nat.le_of_ble_eq_true rfl), (Nat.le_of_ble_eq_true rfl)⟩ (fun r71 n71 h71 e71 => ?_)
        obtain ⟨rfl, q71, u71⟩ := e71
        rw [q71, u71]
        refine gi_callv 1 (q := 77) C (dm_Ma_reckon 46 rfl) rfl my_Ma_push lk_Ma_171 im_Ma_push rfl (c_Ma_push _ (by rw [cur_pop, cur_pop]; show z.cur.n - 1 - 1 < 14; omega) W20) Q20.ob rfl rfl ⟨(Nat.le_of_ble_eq_true rfl), (Nat.le_of_ble_eq_true rfl)⟩ (Nat.le_of_ble_eq_true rfl) ⟨(Nat.le_of_ble_eq_true rfl), (Nat.le_of_ble_eq_true rfl)⟩ (fun r74 n74 h74 e74 => ?_)
        obtain ⟨rfl, rfl, W74⟩ := e74
        obtain ⟨F74, J74, Q74, R74⟩ := id W74
        refine gi_iconst (q := 78) (v := 0) C (dm_Ma_reckon 47 rfl) rfl (by decide) ?_
        refine gi_iret C hr (dm_Ma_reckon 48 rfl) ?_
        rw [show rckZ op z = (pshZ (popZ (popZ z)) (rckI op (topV (popZ z)) (topV z)), 0) from by
          unfold rckZ
          rw [if_neg o18, if_neg (fun q => by rw [jo10] at c27; rw [jo11] at c33; omega)]]
        exact ⟨rfl, rfl, W74⟩
      · refine gi_iload_n (q := 37) (i := 2) C (dm_Ma_reckon 21 rfl) rfl rfl rfl ?_
        refine gi_if_ne (q := 40) (tgt := 46) C (dm_Ma_reckon 22 rfl) rfl (by decide) (fun c37 => ?_) (fun c37 => ?_)
        · refine gi_aload_n (q := 47) (i := 0) C (dm_Ma_reckon 27 rfl) rfl rfl rfl ?_
          refine gi_iload_n (q := 48) (i := 1) C (dm_Ma_reckon 28 rfl) rfl rfl rfl ?_
          refine gi_bipush (q := 50) (v := 10) C (dm_Ma_reckon 29 rfl) rfl (by decide) ?_
          refine gi_icmp_ne (q := 53) (tgt := 59) C (dm_Ma_reckon 30 rfl) rfl (by decide) (fun c50 => ?_) (fun c50 => ?_)
          · refine gi_iload_n (q := 60) (i := 3) C (dm_Ma_reckon 35 rfl) rfl rfl rfl ?_
            refine gi_iload_n (q := 61) (i := 2) C (dm_Ma_reckon 36 rfl) rfl rfl rfl ?_
            refine gi_irem (q := 62) C (dm_Ma_reckon 37 rfl) rfl c37 ?_
            refine gi_callv 1 (q := 65) C (dm_Ma_reckon 38 rfl) rfl my_Ma_push lk_Ma_171 im_Ma_push rfl (c_Ma_push _ (by rw [cur_pop, cur_pop]; show z.cur.n - 1 - 1 < 14; omega) W20) Q20.ob rfl rfl ⟨(Nat.le_of_ble_eq_true rfl), (Nat.le_of_ble_eq_true rfl)⟩ (Nat.le_of_ble_eq_true rfl) ⟨(Nat.le_of_ble_eq_true rfl), (Nat.le_of_ble_eq_true rfl)⟩ (fun r62 n62 h62 e62 => ?_)
            obtain ⟨rfl, rfl, W62⟩ := e62
            obtain ⟨F62, J62, Q62, R62⟩ := id W62
            refine gi_iconst (q := 66) (v := 0) C (dm_Ma_reckon 39 rfl) rfl (by decide) ?_
            refine gi_iret C hr (dm_Ma_reckon 40 rfl) ?_
            rw [show rckZ op z = (pshZ (popZ (popZ z)) (rckI op (topV (popZ z)) (topV z)), 0) from by
              unfold rckZ
              rw [if_neg o18, if_neg (fun q => c37 q.2)]]
            first
              | (rw [jo10] at c50; subst c50; exact ⟨rfl, rfl, W62⟩)
              | (rw [jo11] at c33; subst c33; exact ⟨rfl, rfl, W62⟩)
              | (rw [jo10] at c27; rw [jo10] at c50; exact absurd c27 c50)
          · refine gi_iload_n (q := 54) (i := 3) C (dm_Ma_reckon 31 rfl) rfl rfl rfl ?_
            refine gi_iload_n (q := 55) (i := 2) C (dm_Ma_reckon 32 rfl) rfl rfl rfl ?_
            refine gi_idiv (q := 56) C (dm_Ma_reckon 33 rfl) rfl c37 ?_
            refine gi_goto (tgt := 62) C (dm_Ma_reckon 34 rfl) (by decide) ?_
            refine gi_callv 1 (q := 65) C (dm_Ma_reckon 38 rfl) rfl my_Ma_push lk_Ma_171 im_Ma_push rfl (c_Ma_push _ (by rw [cur_pop, cur_pop]; show z.cur.n - 1 - 1 < 14; omega) W20) Q20.ob rfl rfl ⟨(Nat.le_of_ble_eq_true rfl), (Nat.le_of_ble_eq_true rfl)⟩ (Nat.le_of_ble_eq_true rfl) ⟨(Nat.le_of_ble_eq_true rfl), (Nat.le_of_ble_eq_true rfl)⟩ (fun r62 n62 h62 e62 => ?_)
            obtain ⟨rfl, rfl, W62⟩ := e62
            obtain ⟨F62, J62, Q62, R62⟩ := id W62
            refine gi_iconst (q := 66) (v := 0) C (dm_Ma_reckon 39 rfl) rfl (by decide) ?_
            refine gi_iret C hr (dm_Ma_reckon 40 rfl) ?_
            rw [show rckZ op z = (pshZ (popZ (popZ z)) (rckI op (topV (popZ z)) (topV z)), 0) from by
              unfold rckZ
              rw [if_neg o18, if_neg (fun q => c37 q.2)]]
            first
              | (rw [jo10] at c50; subst c50; exact ⟨rfl, rfl, W62⟩)
              | (rw [jo11] at c33; subst c33; exact ⟨rfl, rfl, W62⟩)
              | (rw [jo10] at c27; rw [jo10] at c50; exact absurd c27 c50)
        · refine gi_aload_n (q := 41) (i := 0) C (dm_Ma_reckon 23 rfl) rfl rfl rfl ?_
          refine gi_iconst (q := 42) (v := 1) C (dm_Ma_reckon 24 rfl) rfl (by decide) ?_
          refine gi_callv 1 (q := 45) C (dm_Ma_reckon 25 rfl) rfl my_Ma_goWrong lk_Ma_180 im_Ma_goWrong rfl (c_Ma_goWrong 1 W20) Q20.ob rfl rfl ⟨(Nat.le_of_ble_eq_true rfl), (Nat.le_of_ble_eq_true rfl)⟩ (Nat.le_of_ble_eq_true rfl) ⟨(Nat.le_of_ble_eq_true rfl), (Nat.le_of_ble_eq_true rfl)⟩ (fun r42 n42 h42 e42 => ?_)
          obtain ⟨rfl, rfl, W42⟩ := e42
          obtain ⟨F42, J42, Q42, R42⟩ := id W42
          refine gi_iret C hr (dm_Ma_reckon 26 rfl) ?_
          rw [show rckZ op z = (wrgZ (popZ (popZ z)) 1, 2) from by
            unfold rckZ
            rw [if_neg o18, if_pos ⟨by first | (left; rw [jo10] at c27; exact c27) | (right; rw [jo11] at c33; exact c33), c37⟩]]
          exact ⟨rfl, rfl, W42⟩
  · refine gi_aload_n (q := 12) (i := 0) C (dm_Ma_reckon 6 rfl) rfl rfl rfl ?_
    refine gi_iload_n (q := 13) (i := 2) C (dm_Ma_reckon 7 rfl) rfl rfl rfl ?_
    refine gi_ineg (q := 14) C (dm_Ma_reckon 8 rfl) rfl ?_
    refine gi_callv 1 (q := 17) C (dm_Ma_reckon 9 rfl) rfl my_Ma_push lk_Ma_171 im_Ma_push rfl (c_Ma_push _ (by rw [cur_pop]; show z.cur.n - 1 < 14; omega) W1) Q1.ob rfl rfl ⟨(Nat.le_of_ble_eq_true rfl), (Nat.le_of_ble_eq_true rfl)⟩ (Nat.le_of_ble_eq_true rfl) ⟨(Nat.le_of_ble_eq_true rfl), (Nat.le_of_ble_eq_true rfl)⟩ (fun r14 n14 h14 e14 => ?_)
    obtain ⟨rfl, rfl, W14⟩ := e14
    obtain ⟨F14, J14, Q14, R14⟩ := id W14
    refine gi_iconst (q := 18) (v := 0) C (dm_Ma_reckon 10 rfl) rfl (by decide) ?_
    refine gi_iret C hr (dm_Ma_reckon 11 rfl) ?_
    rw [jo18] at c8
    subst c8
    exact ⟨rfl, rfl, W14⟩
set_option maxHeartbeats 4000000 in
set_option maxRecDepth 100000 in
theorem c_Ma_compares (op : Nat) (x y : Int32) (h20 : 20 ≤ op) (h25 : op ≤ 25) : gi_T l V y_Ma_compares b_Ma_compares 3 (some .boolean) 0 0 0 0 [.int (nI op), .int x, .int y] n h (gi_is (some (.int (bI (cmpI op x y)))) n h) := by
  refine gi_enter (by decide) (Nat.le_of_ble_eq_true rfl) ?_
  intro _ _ _ _ _ _ _ _ C hr hnm
  rcases (show op = 20 ∨ op = 21 ∨ op = 22 ∨ op = 23 ∨ op = 24 ∨ op = 25 by omega) with e | e | e | e | e | e
  · subst e
    refine gi_iload_n (q := 1) (i := 0) C (dm_Ma_compares 0 rfl) rfl rfl rfl ?_
    refine gi_tableIn (off := 35) (tgt := 36) C (dm_Ma_compares 1 rfl) (by decide) (by decide) rfl (by decide) ?_
    refine gi_iload_n (q := 37) (i := 1) C (dm_Ma_compares 2 rfl) rfl rfl rfl ?_
    refine gi_iload_n (q := 38) (i := 2) C (dm_Ma_compares 3 rfl) rfl rfl rfl ?_
    refine gi_icmp_ne (q := 41) (tgt := 45) C (dm_Ma_compares 4 rfl) rfl (by decide) (fun c38 => ?_) (fun c38 => ?_)
    · refine gi_iconst (q := 46) (v := 0) C (dm_Ma_compares 7 rfl) rfl (by decide) ?_
      refine gi_zret C hr (dm_Ma_compares 8 rfl) rfl ?_
      refine ⟨?_, rfl, rfl⟩
      show _ = some (Value.int (bI (decide (x = y))))
      first
        | (rw [decide_eq_true (show x = y from by first | exact c38 | exact Int32.not_le.mp c38 | exact Int32.not_lt.mp c38)]; rfl)
        | (rw [decide_eq_false (show ¬ (x = y) from by first | exact c38 | exact Int32.not_lt.mpr c38 | exact Int32.not_le.mpr c38 | exact fun q => q c38)]; rfl)
    · refine gi_iconst (q := 42) (v := 1) C (dm_Ma_compares 5 rfl) rfl (by decide) ?_
      refine gi_goto (tgt := 46) C (dm_Ma_compares 6 rfl) (by decide) ?_
      refine gi_zret C hr (dm_Ma_compares 8 rfl) rfl ?_
      refine ⟨?_, rfl, rfl⟩
      show _ = some (Value.int (bI (decide (x = y))))
      first
        | (rw [decide_eq_true (show x = y from by first | exact c38 | exact Int32.not_le.mp c38 | exact Int32.not_lt.mp c38)]; rfl)
        | (rw [decide_eq_false (show ¬ (x = y) from by first | exact c38 | exact Int32.not_lt.mpr c38 | exact Int32.not_le.mpr c38 | exact fun q => q c38)]; rfl)
  · subst e
    refine gi_iload_n (q := 1) (i := 0) C (dm_Ma_compares 0 rfl) rfl rfl rfl ?_
    refine gi_tableIn (off := 46) (tgt := 47) C (dm_Ma_compares 1 rfl) (by decide) (by decide) rfl (by decide) ?_
    refine gi_iload_n (q := 48) (i := 1) C (dm_Ma_compares 9 rfl) rfl rfl rfl ?_
    refine gi_iload_n (q := 49) (i := 2) C (dm_Ma_compares 10 rfl) rfl rfl rfl ?_
    refine gi_icmp_eq (q := 52) (tgt := 56) C (dm_Ma_compares 11 rfl) rfl (by decide) (fun c49 => ?_) (fun c49 => ?_)
    · refine gi_iconst (q := 57) (v := 0) C (dm_Ma_compares 14 rfl) rfl (by decide) ?_
      refine gi_zret C hr (dm_Ma_compares 15 rfl) rfl ?_
      refine ⟨?_, rfl, rfl⟩
      show _ = some (Value.int (bI (decide (x ≠ y))))
      first
        | (rw [decide_eq_true (show x ≠ y from by first | exact c49 | exact Int32.not_le.mp c49 | exact Int32.not_lt.mp c49)]; rfl)
        | (rw [decide_eq_false (show ¬ (x ≠ y) from by first | exact c49 | exact Int32.not_lt.mpr c49 | exact Int32.not_le.mpr c49 | exact fun q => q c49)]; rfl)
    · refine gi_iconst (q := 53) (v := 1) C (dm_Ma_compares 12 rfl) rfl (by decide) ?_
      refine gi_goto (tgt := 57) C (dm_Ma_compares 13 rfl) (by decide) ?_
      refine gi_zret C hr (dm_Ma_compares 15 rfl) rfl ?_
      refine ⟨?_, rfl, rfl⟩
      show _ = some (Value.int (bI (decide (x ≠ y))))
      first
        | (rw [decide_eq_true (show x ≠ y from by first | exact c49 | exact Int32.not_le.mp c49 | exact Int32.not_lt.mp c49)]; rfl)
        | (rw [decide_eq_false (show ¬ (x ≠ y) from by first | exact c49 | exact Int32.not_lt.mpr c49 | exact Int32.not_le.mpr c49 | exact fun q => q c49)]; rfl)
  · subst e
    refine gi_iload_n (q := 1) (i := 0) C (dm_Ma_compares 0 rfl) rfl rfl rfl ?_
    refine gi_tableIn (off := 57) (tgt := 58) C (dm_Ma_compares 1 rfl) (by decide) (by decide) rfl (by decide) ?_
    refine gi_iload_n (q := 59) (i := 1) C (dm_Ma_compares 16 rfl) rfl rfl rfl ?_
    refine gi_iload_n (q := 60) (i := 2) C (dm_Ma_compares 17 rfl) rfl rfl rfl ?_
    refine gi_icmp_ge (q := 63) (tgt := 67) C (dm_Ma_compares 18 rfl) rfl (by decide) (fun c60 => ?_) (fun c60 => ?_)
    · refine gi_iconst (q := 68) (v := 0) C (dm_Ma_compares 21 rfl) rfl (by decide) ?_
      refine gi_zret C hr (dm_Ma_compares 22 rfl) rfl ?_
      refine ⟨?_, rfl, rfl⟩
      show _ = some (Value.int (bI (decide (x < y))))
      first
        | (rw [decide_eq_true (show x < y from by first | exact c60 | exact Int32.not_le.mp c60 | exact Int32.not_lt.mp c60)]; rfl)
        | (rw [decide_eq_false (show ¬ (x < y) from by first | exact c60 | exact Int32.not_lt.mpr c60 | exact Int32.not_le.mpr c60 | exact fun q => q c60)]; rfl)
    · refine gi_iconst (q := 64) (v := 1) C (dm_Ma_compares 19 rfl) rfl (by decide) ?_
      refine gi_goto (tgt := 68) C (dm_Ma_compares 20 rfl) (by decide) ?_
      refine gi_zret C hr (dm_Ma_compares 22 rfl) rfl ?_
      refine ⟨?_, rfl, rfl⟩
      show _ = some (Value.int (bI (decide (x < y))))
      first
        | (rw [decide_eq_true (show x < y from by first | exact c60 | exact Int32.not_le.mp c60 | exact Int32.not_lt.mp c60)]; rfl)
        | (rw [decide_eq_false (show ¬ (x < y) from by first | exact c60 | exact Int32.not_lt.mpr c60 | exact Int32.not_le.mpr c60 | exact fun q => q c60)]; rfl)
  · subst e
    refine gi_iload_n (q := 1) (i := 0) C (dm_Ma_compares 0 rfl) rfl rfl rfl ?_
    refine gi_tableIn (off := 68) (tgt := 69) C (dm_Ma_compares 1 rfl) (by decide) (by decide) rfl (by decide) ?_
    refine gi_iload_n (q := 70) (i := 1) C (dm_Ma_compares 23 rfl) rfl rfl rfl ?_
    refine gi_iload_n (q := 71) (i := 2) C (dm_Ma_compares 24 rfl) rfl rfl rfl ?_
    refine gi_icmp_lt (q := 74) (tgt := 78) C (dm_Ma_compares 25 rfl) rfl (by decide) (fun c71 => ?_) (fun c71 => ?_)
    · refine gi_iconst (q := 79) (v := 0) C (dm_Ma_compares 28 rfl) rfl (by decide) ?_
      refine gi_zret C hr (dm_Ma_compares 29 rfl) rfl ?_
      refine ⟨?_, rfl, rfl⟩
      show _ = some (Value.int (bI (decide (y ≤ x))))
      first
        | (rw [decide_eq_true (show y ≤ x from by first | exact c71 | exact Int32.not_le.mp c71 | exact Int32.not_lt.mp c71)]; rfl)
        | (rw [decide_eq_false (show ¬ (y ≤ x) from by first | exact c71 | exact Int32.not_lt.mpr c71 | exact Int32.not_le.mpr c71 | exact fun q => q c71)]; rfl)
    · refine gi_iconst (q := 75) (v := 1) C (dm_Ma_compares 26 rfl) rfl (by decide) ?_
      refine gi_goto (tgt := 79) C (dm_Ma_compares 27 rfl) (by decide) ?_
      refine gi_zret C hr (dm_Ma_compares 29 rfl) rfl ?_
      refine ⟨?_, rfl, rfl⟩
      show _ = some (Value.int (bI (decide (y ≤ x))))
      first
        | (rw [decide_eq_true (show y ≤ x from by first | exact c71 | exact Int32.not_le.mp c71 | exact Int32.not_lt.mp c71)]; rfl)
        | (rw [decide_eq_false (show ¬ (y ≤ x) from by first | exact c71 | exact Int32.not_lt.mpr c71 | exact Int32.not_le.mpr c71 | exact fun q => q c71)]; rfl)
  · subst e
    refine gi_iload_n (q := 1) (i := 0) C (dm_Ma_compares 0 rfl) rfl rfl rfl ?_
    refine gi_tableIn (off := 79) (tgt := 80) C (dm_Ma_compares 1 rfl) (by decide) (by decide) rfl (by decide) ?_
    refine gi_iload_n (q := 81) (i := 1) C (dm_Ma_compares 30 rfl) rfl rfl rfl ?_
    refine gi_iload_n (q := 82) (i := 2) C (dm_Ma_compares 31 rfl) rfl rfl rfl ?_
    refine gi_icmp_le (q := 85) (tgt := 89) C (dm_Ma_compares 32 rfl) rfl (by decide) (fun c82 => ?_) (fun c82 => ?_)
    · refine gi_iconst (q := 90) (v := 0) C (dm_Ma_compares 35 rfl) rfl (by decide) ?_
      refine gi_zret C hr (dm_Ma_compares 36 rfl) rfl ?_
      refine ⟨?_, rfl, rfl⟩
      show _ = some (Value.int (bI (decide (y < x))))
      first
        | (rw [decide_eq_true (show y < x from by first | exact c82 | exact Int32.not_le.mp c82 | exact Int32.not_lt.mp c82)]; rfl)
        | (rw [decide_eq_false (show ¬ (y < x) from by first | exact c82 | exact Int32.not_lt.mpr c82 | exact Int32.not_le.mpr c82 | exact fun q => q c82)]; rfl)
    · refine gi_iconst (q := 86) (v := 1) C (dm_Ma_compares 33 rfl) rfl (by decide) ?_
      refine gi_goto (tgt := 90) C (dm_Ma_compares 34 rfl) (by decide) ?_
      refine gi_zret C hr (dm_Ma_compares 36 rfl) rfl ?_
      refine ⟨?_, rfl, rfl⟩
      show _ = some (Value.int (bI (decide (y < x))))
      first
        | (rw [decide_eq_true (show y < x from by first | exact c82 | exact Int32.not_le.mp c82 | exact Int32.not_lt.mp c82)]; rfl)
        | (rw [decide_eq_false (show ¬ (y < x) from by first | exact c82 | exact Int32.not_lt.mpr c82 | exact Int32.not_le.mpr c82 | exact fun q => q c82)]; rfl)
  · subst e
    refine gi_iload_n (q := 1) (i := 0) C (dm_Ma_compares 0 rfl) rfl rfl rfl ?_
    refine gi_tableOut (tgt := 91) C (dm_Ma_compares 1 rfl) (lo := 20) (hi := 24) (by decide) (by decide) ?_
    refine gi_iload_n (q := 92) (i := 1) C (dm_Ma_compares 37 rfl) rfl rfl rfl ?_
    refine gi_iload_n (q := 93) (i := 2) C (dm_Ma_compares 38 rfl) rfl rfl rfl ?_
    refine gi_icmp_gt (q := 96) (tgt := 100) C (dm_Ma_compares 39 rfl) rfl (by decide) (fun c93 => ?_) (fun c93 => ?_)
    · refine gi_iconst (q := 101) (v := 0) C (dm_Ma_compares 42 rfl) rfl (by decide) ?_
      refine gi_zret C hr (dm_Ma_compares 43 rfl) rfl ?_
      refine ⟨?_, rfl, rfl⟩
      show _ = some (Value.int (bI (decide (x ≤ y))))
      first
        | (rw [decide_eq_true (show x ≤ y from by first | exact c93 | exact Int32.not_le.mp c93 | exact Int32.not_lt.mp c93)]; rfl)
        | (rw [decide_eq_false (show ¬ (x ≤ y) from by first | exact c93 | exact Int32.not_lt.mpr c93 | exact Int32.not_le.mpr c93 | exact fun q => q c93)]; rfl)
    · refine gi_iconst (q := 97) (v := 1) C (dm_Ma_compares 40 rfl) rfl (by decide) ?_
      refine gi_goto (tgt := 101) C (dm_Ma_compares 41 rfl) (by decide) ?_
      refine gi_zret C hr (dm_Ma_compares 43 rfl) rfl ?_
      refine ⟨?_, rfl, rfl⟩
      show _ = some (Value.int (bI (decide (x ≤ y))))
      first
        | (rw [decide_eq_true (show x ≤ y from by first | exact c93 | exact Int32.not_le.mp c93 | exact Int32.not_lt.mp c93)]; rfl)
        | (rw [decide_eq_false (show ¬ (x ≤ y) from by first | exact c93 | exact Int32.not_lt.mpr c93 | exact Int32.not_le.mpr c93 | exact fun q => q c93)]; rfl)
set_option maxHeartbeats 4000000 in
set_option maxRecDepth 100000 in
theorem c_Ma_jump (op x : Nat) (h19 : 19 ≤ op) (h27 : op ≤ 27) (hn : op ≠ 19 → 1 ≤ z.cur.n) (hn2 : 20 ≤ op → op ≤ 25 → 2 ≤ z.cur.n) (Hw : MW a pr bu fa gv h0 sx wt Jx z h) : gi_T l V y_Ma_jump b_Ma_jump 6 (some .int) 1 22 0 0 [.ref a, .int (nI op), .int (nI x)] n h (fun v n' h' => v = some (.int 0) ∧ n' = n ∧ MW a pr bu fa gv h0 sx wt Jx (jmpZ op x z) h') := by
  refine gi_enter (by decide) (Nat.le_of_ble_eq_true rfl) ?_
  intro _ _ _ _ _ _ _ _ C hr hnm
  obtain ⟨F, J, Q, R⟩ := id Hw
  have t16 := R.1
  have n14 := R.cur.2.2.2.1
  have jo19 : (nI op = 19) = (op = 19) := nI_eqP (b := 19) (by omega) (by decide)
  have jo26 : (nI op = 26) = (op = 26) := nI_eqP (b := 26) (by omega) (by decide)
  have jo27 : (nI op = 27) = (op = 27) := nI_eqP (b := 27) (by omega) (by decide)
  rcases (show op = 19 ∨ op = 26 ∨ op = 27 ∨ (20 ≤ op ∧ op ≤ 25) by omega) with e | e | e | ⟨e1, e2⟩
  · subst e
    refine gi_iload_n (q := 1) (i := 1) C (dm_Ma_jump 0 rfl) rfl rfl rfl ?_
    refine gi_bipush (q := 3) (v := 19) C (dm_Ma_jump 1 rfl) rfl (by decide) ?_
    refine gi_icmp_ne (q := 6) (tgt := 10) C (dm_Ma_jump 2 rfl) rfl (by decide) (fun c3 => ?_) (fun c3 => ?_)
    · exact absurd rfl c3
    · refine gi_iconst (q := 7) (v := 1) C (dm_Ma_jump 3 rfl) rfl (by decide) ?_
      refine gi_goto (tgt := 11) C (dm_Ma_jump 4 rfl) (by decide) ?_
      refine gi_istore_n (q := 12) (i := 3) C (dm_Ma_jump 6 rfl) rfl rfl (Nat.le_of_ble_eq_true rfl) ?_
      refine gi_iload_n (q := 13) (i := 1) C (dm_Ma_jump 7 rfl) rfl rfl rfl ?_
      refine gi_bipush (q := 15) (v := 26) C (dm_Ma_jump 8 rfl) rfl (by decide) ?_
      refine gi_icmp_eq (q := 18) (tgt := 24) C (dm_Ma_jump 9 rfl) rfl (by decide) (fun c15 => ?_) (fun c15 => ?_)
      · exact absurd c15 (by decide)
      · refine gi_iload_n (q := 19) (i := 1) C (dm_Ma_jump 10 rfl) rfl rfl rfl ?_
        refine gi_bipush (q := 21) (v := 27) C (dm_Ma_jump 11 rfl) rfl (by decide) ?_
        refine gi_icmp_ne (q := 24) (tgt := 59) C (dm_Ma_jump 12 rfl) rfl (by decide) (fun c21 => ?_) (fun c21 => ?_)
        · refine gi_iload_n (q := 60) (i := 1) C (dm_Ma_jump 31 rfl) rfl rfl rfl ?_
          refine gi_bipush (q := 62) (v := 19) C (dm_Ma_jump 32 rfl) rfl (by decide) ?_
          refine gi_icmp_eq (q := 65) (tgt := 86) C (dm_Ma_jump 33 rfl) rfl (by decide) (fun c62 => ?_) (fun c62 => ?_)
          · refine gi_iload_n (q := 87) (i := 3) C (dm_Ma_jump 45 rfl) rfl rfl rfl ?_
            refine gi_if_eq (q := 90) (tgt := 100) C (dm_Ma_jump 46 rfl) rfl (by decide) (fun c87 => ?_) (fun c87 => ?_)
            · exact absurd c87 (by decide)
            · refine gi_aload_n (q := 91) (i := 0) C (dm_Ma_jump 47 rfl) rfl rfl rfl ?_
              refine gi_get (q := 94) C (dm_Ma_jump 48 rfl) rfl fl_Ma_39 Q.ob rfl ?_
              refine gi_aload_n (q := 95) (i := 0) C (dm_Ma_jump 49 rfl) rfl rfl rfl ?_
              refine gi_get (q := 98) C (dm_Ma_jump 50 rfl) rfl fl_Ma_72 Q.ob rfl ?_
              refine gi_iload_n (q := 99) (i := 2) C (dm_Ma_jump 51 rfl) rfl rfl rfl ?_
              refine gi_iast (q := 100) C (dm_Ma_jump 52 rfl) rfl rfl Q.a11 (in16 t16) ?_
              rw [nI_clamp (show z.top < 2 ^ 31 by omega)]
              refine gi_iconst (q := 101) (v := 0) C (dm_Ma_jump 53 rfl) rfl (by decide) ?_
              refine gi_iret C hr (dm_Ma_jump 54 rfl) ?_
              exact ⟨rfl, rfl, MW.got Q R⟩
          · exact absurd rfl c62
        · exact absurd c21 (by decide)
  · subst e
    refine gi_iload_n (q := 1) (i := 1) C (dm_Ma_jump 0 rfl) rfl rfl rfl ?_
    refine gi_bipush (q := 3) (v := 19) C (dm_Ma_jump 1 rfl) rfl (by decide) ?_
    refine gi_icmp_ne (q := 6) (tgt := 10) C (dm_Ma_jump 2 rfl) rfl (by decide) (fun c3 => ?_) (fun c3 => ?_)
    · refine gi_iconst (q := 11) (v := 0) C (dm_Ma_jump 5 rfl) rfl (by decide) ?_
      refine gi_istore_n (q := 12) (i := 3) C (dm_Ma_jump 6 rfl) rfl rfl (Nat.le_of_ble_eq_true rfl) ?_
      refine gi_iload_n (q := 13) (i := 1) C (dm_Ma_jump 7 rfl) rfl rfl rfl ?_
      refine gi_bipush (q := 15) (v := 26) C (dm_Ma_jump 8 rfl) rfl (by decide) ?_
      refine gi_icmp_eq (q := 18) (tgt := 24) C (dm_Ma_jump 9 rfl) rfl (by decide) (fun c15 => ?_) (fun c15 => ?_)
      · refine gi_aload_n (q := 25) (i := 0) C (dm_Ma_jump 13 rfl) rfl rfl rfl ?_
        refine gi_callv 0 (q := 28) C (dm_Ma_jump 14 rfl) rfl my_Ma_pop lk_Ma_177 im_Ma_pop rfl (c_Ma_pop (hn (by decide)) Hw) Q.ob rfl rfl ⟨(Nat.le_of_ble_eq_true rfl), (Nat.le_of_ble_eq_true rfl)⟩ (Nat.le_of_ble_eq_true rfl) ⟨(Nat.le_of_ble_eq_true rfl), (Nat.le_of_ble_eq_true rfl)⟩ (fun r25 n25 h25 e25 => ?_)
        obtain ⟨rfl, rfl, W25⟩ := e25
        obtain ⟨F25, J25, Q25, R25⟩ := id W25
        refine gi_if_ne (q := 31) (tgt := 35) C (dm_Ma_jump 15 rfl) rfl (by decide) (fun c28 => ?_) (fun c28 => ?_)
        · refine gi_iconst (q := 36) (v := 0) C (dm_Ma_jump 18 rfl) rfl (by decide) ?_
          refine gi_iload_n (q := 37) (i := 1) C (dm_Ma_jump 19 rfl) rfl rfl rfl ?_
          refine gi_bipush (q := 39) (v := 26) C (dm_Ma_jump 20 rfl) rfl (by decide) ?_
          refine gi_icmp_ne (q := 42) (tgt := 46) C (dm_Ma_jump 21 rfl) rfl (by decide) (fun c39 => ?_) (fun c39 => ?_)
          · exact absurd rfl c39
          · refine gi_iconst (q := 43) (v := 1) C (dm_Ma_jump 22 rfl) rfl (by decide) ?_
            refine gi_goto (tgt := 47) C (dm_Ma_jump 23 rfl) (by decide) ?_
            refine gi_icmp_ne (q := 50) (tgt := 54) C (dm_Ma_jump 25 rfl) rfl (by decide) (fun c47 => ?_) (fun c47 => ?_)
            · refine gi_iconst (q := 55) (v := 0) C (dm_Ma_jump 28 rfl) rfl (by decide) ?_
              refine gi_istore_n (q := 56) (i := 3) C (dm_Ma_jump 29 rfl) rfl rfl (Nat.le_of_ble_eq_true rfl) ?_
              refine gi_goto (tgt := 86) C (dm_Ma_jump 30 rfl) (by decide) ?_
              refine gi_iload_n (q := 87) (i := 3) C (dm_Ma_jump 45 rfl) rfl rfl rfl ?_
              refine gi_if_eq (q := 90) (tgt := 100) C (dm_Ma_jump 46 rfl) rfl (by decide) (fun c87 => ?_) (fun c87 => ?_)
              · (try rw [nI_clamp (show (popZ z).top < 2 ^ 31 by show z.top < 2 ^ 31; omega)])
                refine gi_iconst (q := 101) (v := 0) C (dm_Ma_jump 53 rfl) rfl (by decide) ?_
                refine gi_iret C hr (dm_Ma_jump 54 rfl) ?_
                refine ⟨rfl, rfl, ?_⟩
                first
                  | exact absurd c47 (by decide)
                  | exact absurd rfl c47
                  | (show MW a pr bu fa gv h0 sx wt Jx (if topV z = 0 then gotZ (popZ z) x else popZ z) _
                     first
                       | (rw [if_pos c28]; exact MW.got Q25 R25)
                       | (rw [if_pos c28]; exact W25)
                       | (rw [if_neg c28]; exact MW.got Q25 R25)
                       | (rw [if_neg c28]; exact W25))
              · exact absurd (by decide) c87
            · refine gi_iconst (q := 51) (v := 1) C (dm_Ma_jump 26 rfl) rfl (by decide) ?_
              refine gi_goto (tgt := 55) C (dm_Ma_jump 27 rfl) (by decide) ?_
              refine gi_istore_n (q := 56) (i := 3) C (dm_Ma_jump 29 rfl) rfl rfl (Nat.le_of_ble_eq_true rfl) ?_
              refine gi_goto (tgt := 86) C (dm_Ma_jump 30 rfl) (by decide) ?_
              refine gi_iload_n (q := 87) (i := 3) C (dm_Ma_jump 45 rfl) rfl rfl rfl ?_
              refine gi_if_eq (q := 90) (tgt := 100) C (dm_Ma_jump 46 rfl) rfl (by decide) (fun c87 => ?_) (fun c87 => ?_)
              · exact absurd c87 (by decide)
              · refine gi_aload_n (q := 91) (i := 0) C (dm_Ma_jump 47 rfl) rfl rfl rfl ?_
                refine gi_get (q := 94) C (dm_Ma_jump 48 rfl) rfl fl_Ma_39 Q25.ob rfl ?_
                refine gi_aload_n (q := 95) (i := 0) C (dm_Ma_jump 49 rfl) rfl rfl rfl ?_
                refine gi_get (q := 98) C (dm_Ma_jump 50 rfl) rfl fl_Ma_72 Q25.ob rfl ?_
                refine gi_iload_n (q := 99) (i := 2) C (dm_Ma_jump 51 rfl) rfl rfl rfl ?_
                refine gi_iast (q := 100) C (dm_Ma_jump 52 rfl) rfl rfl Q25.a11 (in16 t16) ?_
                (try rw [nI_clamp (show (popZ z).top < 2 ^ 31 by show z.top < 2 ^ 31; omega)])
                refine gi_iconst (q := 101) (v := 0) C (dm_Ma_jump 53 rfl) rfl (by decide) ?_
                refine gi_iret C hr (dm_Ma_jump 54 rfl) ?_
                refine ⟨rfl, rfl, ?_⟩
                first
                  | exact absurd c47 (by decide)
                  | exact absurd rfl c47
                  | (show MW a pr bu fa gv h0 sx wt Jx (if topV z = 0 then gotZ (popZ z) x else popZ z) _
                     first
                       | (rw [if_pos c28]; exact MW.got Q25 R25)
                       | (rw [if_pos c28]; exact W25)
                       | (rw [if_neg c28]; exact MW.got Q25 R25)
                       | (rw [if_neg c28]; exact W25))
        · refine gi_iconst (q := 32) (v := 1) C (dm_Ma_jump 16 rfl) rfl (by decide) ?_
          refine gi_goto (tgt := 36) C (dm_Ma_jump 17 rfl) (by decide) ?_
          refine gi_iload_n (q := 37) (i := 1) C (dm_Ma_jump 19 rfl) rfl rfl rfl ?_
          refine gi_bipush (q := 39) (v := 26) C (dm_Ma_jump 20 rfl) rfl (by decide) ?_
          refine gi_icmp_ne (q := 42) (tgt := 46) C (dm_Ma_jump 21 rfl) rfl (by decide) (fun c39 => ?_) (fun c39 => ?_)
          · exact absurd rfl c39
          · refine gi_iconst (q := 43) (v := 1) C (dm_Ma_jump 22 rfl) rfl (by decide) ?_
            refine gi_goto (tgt := 47) C (dm_Ma_jump 23 rfl) (by decide) ?_
            refine gi_icmp_ne (q := 50) (tgt := 54) C (dm_Ma_jump 25 rfl) rfl (by decide) (fun c47 => ?_) (fun c47 => ?_)
            · refine gi_iconst (q := 55) (v := 0) C (dm_Ma_jump 28 rfl) rfl (by decide) ?_
              refine gi_istore_n (q := 56) (i := 3) C (dm_Ma_jump 29 rfl) rfl rfl (Nat.le_of_ble_eq_true rfl) ?_
              refine gi_goto (tgt := 86) C (dm_Ma_jump 30 rfl) (by decide) ?_
              refine gi_iload_n (q := 87) (i := 3) C (dm_Ma_jump 45 rfl) rfl rfl rfl ?_
              refine gi_if_eq (q := 90) (tgt := 100) C (dm_Ma_jump 46 rfl) rfl (by decide) (fun c87 => ?_) (fun c87 => ?_)
              · (try rw [nI_clamp (show (popZ z).top < 2 ^ 31 by show z.top < 2 ^ 31; omega)])
                refine gi_iconst (q := 101) (v := 0) C (dm_Ma_jump 53 rfl) rfl (by decide) ?_
                refine gi_iret C hr (dm_Ma_jump 54 rfl) ?_
                refine ⟨rfl, rfl, ?_⟩
                first
                  | exact absurd c47 (by decide)
                  | exact absurd rfl c47
                  | (show MW a pr bu fa gv h0 sx wt Jx (if topV z = 0 then gotZ (popZ z) x else popZ z) _
                     first
                       | (rw [if_pos c28]; exact MW.got Q25 R25)
                       | (rw [if_pos c28]; exact W25)
                       | (rw [if_neg c28]; exact MW.got Q25 R25)
                       | (rw [if_neg c28]; exact W25))
              · exact absurd (by decide) c87
            · refine gi_iconst (q := 51) (v := 1) C (dm_Ma_jump 26 rfl) rfl (by decide) ?_
              refine gi_goto (tgt := 55) C (dm_Ma_jump 27 rfl) (by decide) ?_
              refine gi_istore_n (q := 56) (i := 3) C (dm_Ma_jump 29 rfl) rfl rfl (Nat.le_of_ble_eq_true rfl) ?_
              refine gi_goto (tgt := 86) C (dm_Ma_jump 30 rfl) (by decide) ?_
              refine gi_iload_n (q := 87) (i := 3) C (dm_Ma_jump 45 rfl) rfl rfl rfl ?_
              refine gi_if_eq (q := 90) (tgt := 100) C (dm_Ma_jump 46 rfl) rfl (by decide) (fun c87 => ?_) (fun c87 => ?_)
              · exact absurd c87 (by decide)
              · refine gi_aload_n (q := 91) (i := 0) C (dm_Ma_jump 47 rfl) rfl rfl rfl ?_
                refine gi_get (q := 94) C (dm_Ma_jump 48 rfl) rfl fl_Ma_39 Q25.ob rfl ?_
                refine gi_aload_n (q := 95) (i := 0) C (dm_Ma_jump 49 rfl) rfl rfl rfl ?_
                refine gi_get (q := 98) C (dm_Ma_jump 50 rfl) rfl fl_Ma_72 Q25.ob rfl ?_
                refine gi_iload_n (q := 99) (i := 2) C (dm_Ma_jump 51 rfl) rfl rfl rfl ?_
                refine gi_iast (q := 100) C (dm_Ma_jump 52 rfl) rfl rfl Q25.a11 (in16 t16) ?_
                (try rw [nI_clamp (show (popZ z).top < 2 ^ 31 by show z.top < 2 ^ 31; omega)])
                refine gi_iconst (q := 101) (v := 0) C (dm_Ma_jump 53 rfl) rfl (by decide) ?_
                refine gi_iret C hr (dm_Ma_jump 54 rfl) ?_
                refine ⟨rfl, rfl, ?_⟩
                first
                  | exact absurd c47 (by decide)
                  | exact absurd rfl c47
                  | (show MW a pr bu fa gv h0 sx wt Jx (if topV z = 0 then gotZ (popZ z) x else popZ z) _
                     first
                       | (rw [if_pos c28]; exact MW.got Q25 R25)
                       | (rw [if_pos c28]; exact W25)
                       | (rw [if_neg c28]; exact MW.got Q25 R25)
                       | (rw [if_neg c28]; exact W25))
      · exact absurd rfl c15
    · exact absurd c3 (by decide)
  · subst e
    refine gi_iload_n (q := 1) (i := 1) C (dm_Ma_jump 0 rfl) rfl rfl rfl ?_
    refine gi_bipush (q := 3) (v := 19) C (dm_Ma_jump 1 rfl) rfl (by decide) ?_
    refine gi_icmp_ne (q := 6) (tgt := 10) C (dm_Ma_jump 2 rfl) rfl (by decide) (fun c3 => ?_) (fun c3 => ?_)
    · refine gi_iconst (q := 11) (v := 0) C (dm_Ma_jump 5 rfl) rfl (by decide) ?_
      refine gi_istore_n (q := 12) (i := 3) C (dm_Ma_jump 6 rfl) rfl rfl (Nat.le_of_ble_eq_true rfl) ?_
      refine gi_iload_n (q := 13) (i := 1) C (dm_Ma_jump 7 rfl) rfl rfl rfl ?_
      refine gi_bipush (q := 15) (v := 26) C (dm_Ma_jump 8 rfl) rfl (by decide) ?_
      refine gi_icmp_eq (q := 18) (tgt := 24) C (dm_Ma_jump 9 rfl) rfl (by decide) (fun c15 => ?_) (fun c15 => ?_)
      · exact absurd c15 (by decide)
      · refine gi_iload_n (q := 19) (i := 1) C (dm_Ma_jump 10 rfl) rfl rfl rfl ?_
        refine gi_bipush (q := 21) (v := 27) C (dm_Ma_jump 11 rfl) rfl (by decide) ?_
        refine gi_icmp_ne (q := 24) (tgt := 59) C (dm_Ma_jump 12 rfl) rfl (by decide) (fun c21 => ?_) (fun c21 => ?_)
        · exact absurd rfl c21
        · refine gi_aload_n (q := 25) (i := 0) C (dm_Ma_jump 13 rfl) rfl rfl rfl ?_
          refine gi_callv 0 (q := 28) C (dm_Ma_jump 14 rfl) rfl my_Ma_pop lk_Ma_177 im_Ma_pop rfl (c_Ma_pop (hn (by decide)) Hw) Q.ob rfl rfl ⟨(Nat.le_of_ble_eq_true rfl), (Nat.le_of_ble_eq_true rfl)⟩ (Nat.le_of_ble_eq_true rfl) ⟨(Nat.le_of_ble_eq_true rfl), (Nat.le_of_ble_eq_true rfl)⟩ (fun r25 n25 h25 e25 => ?_)
          obtain ⟨rfl, rfl, W25⟩ := e25
          obtain ⟨F25, J25, Q25, R25⟩ := id W25
          refine gi_if_ne (q := 31) (tgt := 35) C (dm_Ma_jump 15 rfl) rfl (by decide) (fun c28 => ?_) (fun c28 => ?_)
          · refine gi_iconst (q := 36) (v := 0) C (dm_Ma_jump 18 rfl) rfl (by decide) ?_
            refine gi_iload_n (q := 37) (i := 1) C (dm_Ma_jump 19 rfl) rfl rfl rfl ?_
            refine gi_bipush (q := 39) (v := 26) C (dm_Ma_jump 20 rfl) rfl (by decide) ?_
            refine gi_icmp_ne (q := 42) (tgt := 46) C (dm_Ma_jump 21 rfl) rfl (by decide) (fun c39 => ?_) (fun c39 => ?_)
            · refine gi_iconst (q := 47) (v := 0) C (dm_Ma_jump 24 rfl) rfl (by decide) ?_
              refine gi_icmp_ne (q := 50) (tgt := 54) C (dm_Ma_jump 25 rfl) rfl (by decide) (fun c47 => ?_) (fun c47 => ?_)
              · refine gi_iconst (q := 55) (v := 0) C (dm_Ma_jump 28 rfl) rfl (by decide) ?_
                refine gi_istore_n (q := 56) (i := 3) C (dm_Ma_jump 29 rfl) rfl rfl (Nat.le_of_ble_eq_true rfl) ?_
                refine gi_goto (tgt := 86) C (dm_Ma_jump 30 rfl) (by decide) ?_
                refine gi_iload_n (q := 87) (i := 3) C (dm_Ma_jump 45 rfl) rfl rfl rfl ?_
                refine gi_if_eq (q := 90) (tgt := 100) C (dm_Ma_jump 46 rfl) rfl (by decide) (fun c87 => ?_) (fun c87 => ?_)
                · (try rw [nI_clamp (show (popZ z).top < 2 ^ 31 by show z.top < 2 ^ 31; omega)])
                  refine gi_iconst (q := 101) (v := 0) C (dm_Ma_jump 53 rfl) rfl (by decide) ?_
                  refine gi_iret C hr (dm_Ma_jump 54 rfl) ?_
                  refine ⟨rfl, rfl, ?_⟩
                  first
                    | exact absurd c47 (by decide)
                    | exact absurd rfl c47
                    | (show MW a pr bu fa gv h0 sx wt Jx (if topV z = 0 then popZ z else gotZ (popZ z) x) _
                       first
                         | (rw [if_pos c28]; exact MW.got Q25 R25)
                         | (rw [if_pos c28]; exact W25)
                         | (rw [if_neg c28]; exact MW.got Q25 R25)
                         | (rw [if_neg c28]; exact W25))
                · exact absurd (by decide) c87
              · refine gi_iconst (q := 51) (v := 1) C (dm_Ma_jump 26 rfl) rfl (by decide) ?_
                refine gi_goto (tgt := 55) C (dm_Ma_jump 27 rfl) (by decide) ?_
                refine gi_istore_n (q := 56) (i := 3) C (dm_Ma_jump 29 rfl) rfl rfl (Nat.le_of_ble_eq_true rfl) ?_
                refine gi_goto (tgt := 86) C (dm_Ma_jump 30 rfl) (by decide) ?_
                refine gi_iload_n (q := 87) (i := 3) C (dm_Ma_jump 45 rfl) rfl rfl rfl ?_
                refine gi_if_eq (q := 90) (tgt := 100) C (dm_Ma_jump 46 rfl) rfl (by decide) (fun c87 => ?_) (fun c87 => ?_)
                · exact absurd c87 (by decide)
                · refine gi_aload_n (q := 91) (i := 0) C (dm_Ma_jump 47 rfl) rfl rfl rfl ?_
                  refine gi_get (q := 94) C (dm_Ma_jump 48 rfl) rfl fl_Ma_39 Q25.ob rfl ?_
                  refine gi_aload_n (q := 95) (i := 0) C (dm_Ma_jump 49 rfl) rfl rfl rfl ?_
                  refine gi_get (q := 98) C (dm_Ma_jump 50 rfl) rfl fl_Ma_72 Q25.ob rfl ?_
                  refine gi_iload_n (q := 99) (i := 2) C (dm_Ma_jump 51 rfl) rfl rfl rfl ?_
                  refine gi_iast (q := 100) C (dm_Ma_jump 52 rfl) rfl rfl Q25.a11 (in16 t16) ?_
                  (try rw [nI_clamp (show (popZ z).top < 2 ^ 31 by show z.top < 2 ^ 31; omega)])
                  refine gi_iconst (q := 101) (v := 0) C (dm_Ma_jump 53 rfl) rfl (by decide) ?_
                  refine gi_iret C hr (dm_Ma_jump 54 rfl) ?_
                  refine ⟨rfl, rfl, ?_⟩
                  first
                    | exact absurd c47 (by decide)
                    | exact absurd rfl c47
                    | (show MW a pr bu fa gv h0 sx wt Jx (if topV z = 0 then popZ z else gotZ (popZ z) x) _
                       first
                         | (rw [if_pos c28]; exact MW.got Q25 R25)
                         | (rw [if_pos c28]; exact W25)
                         | (rw [if_neg c28]; exact MW.got Q25 R25)
                         | (rw [if_neg c28]; exact W25))
            · exact absurd c39 (by decide)
          · refine gi_iconst (q := 32) (v := 1) C (dm_Ma_jump 16 rfl) rfl (by decide) ?_
            refine gi_goto (tgt := 36) C (dm_Ma_jump 17 rfl) (by decide) ?_
            refine gi_iload_n (q := 37) (i := 1) C (dm_Ma_jump 19 rfl) rfl rfl rfl ?_
            refine gi_bipush (q := 39) (v := 26) C (dm_Ma_jump 20 rfl) rfl (by decide) ?_
            refine gi_icmp_ne (q := 42) (tgt := 46) C (dm_Ma_jump 21 rfl) rfl (by decide) (fun c39 => ?_) (fun c39 => ?_)
            · refine gi_iconst (q := 47) (v := 0) C (dm_Ma_jump 24 rfl) rfl (by decide) ?_
              refine gi_icmp_ne (q := 50) (tgt := 54) C (dm_Ma_jump 25 rfl) rfl (by decide) (fun c47 => ?_) (fun c47 => ?_)
              · refine gi_iconst (q := 55) (v := 0) C (dm_Ma_jump 28 rfl) rfl (by decide) ?_
                refine gi_istore_n (q := 56) (i := 3) C (dm_Ma_jump 29 rfl) rfl rfl (Nat.le_of_ble_eq_true rfl) ?_
                refine gi_goto (tgt := 86) C (dm_Ma_jump 30 rfl) (by decide) ?_
                refine gi_iload_n (q := 87) (i := 3) C (dm_Ma_jump 45 rfl) rfl rfl rfl ?_
                refine gi_if_eq (q := 90) (tgt := 100) C (dm_Ma_jump 46 rfl) rfl (by decide) (fun c87 => ?_) (fun c87 => ?_)
                · (try rw [nI_clamp (show (popZ z).top < 2 ^ 31 by show z.top < 2 ^ 31; omega)])
                  refine gi_iconst (q := 101) (v := 0) C (dm_Ma_jump 53 rfl) rfl (by decide) ?_
                  refine gi_iret C hr (dm_Ma_jump 54 rfl) ?_
                  refine ⟨rfl, rfl, ?_⟩
                  first
                    | exact absurd c47 (by decide)
                    | exact absurd rfl c47
                    | (show MW a pr bu fa gv h0 sx wt Jx (if topV z = 0 then popZ z else gotZ (popZ z) x) _
                       first
                         | (rw [if_pos c28]; exact MW.got Q25 R25)
                         | (rw [if_pos c28]; exact W25)
                         | (rw [if_neg c28]; exact MW.got Q25 R25)
                         | (rw [if_neg c28]; exact W25))
                · exact absurd (by decide) c87
              · refine gi_iconst (q := 51) (v := 1) C (dm_Ma_jump 26 rfl) rfl (by decide) ?_
                refine gi_goto (tgt := 55) C (dm_Ma_jump 27 rfl) (by decide) ?_
                refine gi_istore_n (q := 56) (i := 3) C (dm_Ma_jump 29 rfl) rfl rfl (Nat.le_of_ble_eq_true rfl) ?_
                refine gi_goto (tgt := 86) C (dm_Ma_jump 30 rfl) (by decide) ?_
                refine gi_iload_n (q := 87) (i := 3) C (dm_Ma_jump 45 rfl) rfl rfl rfl ?_
                refine gi_if_eq (q := 90) (tgt := 100) C (dm_Ma_jump 46 rfl) rfl (by decide) (fun c87 => ?_) (fun c87 => ?_)
                · exact absurd c87 (by decide)
                · refine gi_aload_n (q := 91) (i := 0) C (dm_Ma_jump 47 rfl) rfl rfl rfl ?_
                  refine gi_get (q := 94) C (dm_Ma_jump 48 rfl) rfl fl_Ma_39 Q25.ob rfl ?_
                  refine gi_aload_n (q := 95) (i := 0) C (dm_Ma_jump 49 rfl) rfl rfl rfl ?_
                  refine gi_get (q := 98) C (dm_Ma_jump 50 rfl) rfl fl_Ma_72 Q25.ob rfl ?_
                  refine gi_iload_n (q := 99) (i := 2) C (dm_Ma_jump 51 rfl) rfl rfl rfl ?_
                  refine gi_iast (q := 100) C (dm_Ma_jump 52 rfl) rfl rfl Q25.a11 (in16 t16) ?_
                  (try rw [nI_clamp (show (popZ z).top < 2 ^ 31 by show z.top < 2 ^ 31; omega)])
                  refine gi_iconst (q := 101) (v := 0) C (dm_Ma_jump 53 rfl) rfl (by decide) ?_
                  refine gi_iret C hr (dm_Ma_jump 54 rfl) ?_
                  refine ⟨rfl, rfl, ?_⟩
                  first
                    | exact absurd c47 (by decide)
                    | exact absurd rfl c47
                    | (show MW a pr bu fa gv h0 sx wt Jx (if topV z = 0 then popZ z else gotZ (popZ z) x) _
                       first
                         | (rw [if_pos c28]; exact MW.got Q25 R25)
                         | (rw [if_pos c28]; exact W25)
                         | (rw [if_neg c28]; exact MW.got Q25 R25)
                         | (rw [if_neg c28]; exact W25))
            · exact absurd c39 (by decide)
    · exact absurd c3 (by decide)
  · have d19 : op ≠ 19 := by omega
    have d26 : op ≠ 26 := by omega
    have d27 : op ≠ 27 := by omega
    refine gi_iload_n (q := 1) (i := 1) C (dm_Ma_jump 0 rfl) rfl rfl rfl ?_
    refine gi_bipush (q := 3) (v := 19) C (dm_Ma_jump 1 rfl) rfl (by decide) ?_
    refine gi_icmp_ne (q := 6) (tgt := 10) C (dm_Ma_jump 2 rfl) rfl (by decide) (fun c3 => ?_) (fun c3 => ?_)
    · refine gi_iconst (q := 11) (v := 0) C (dm_Ma_jump 5 rfl) rfl (by decide) ?_
      refine gi_istore_n (q := 12) (i := 3) C (dm_Ma_jump 6 rfl) rfl rfl (Nat.le_of_ble_eq_true rfl) ?_
      refine gi_iload_n (q := 13) (i := 1) C (dm_Ma_jump 7 rfl) rfl rfl rfl ?_
      refine gi_bipush (q := 15) (v := 26) C (dm_Ma_jump 8 rfl) rfl (by decide) ?_
      refine gi_icmp_eq (q := 18) (tgt := 24) C (dm_Ma_jump 9 rfl) rfl (by decide) (fun c15 => ?_) (fun c15 => ?_)
      · exact absurd c15 (by rw [jo26]; exact d26)
      · refine gi_iload_n (q := 19) (i := 1) C (dm_Ma_jump 10 rfl) rfl rfl rfl ?_
        refine gi_bipush (q := 21) (v := 27) C (dm_Ma_jump 11 rfl) rfl (by decide) ?_
        refine gi_icmp_ne (q := 24) (tgt := 59) C (dm_Ma_jump 12 rfl) rfl (by decide) (fun c21 => ?_) (fun c21 => ?_)
        · refine gi_iload_n (q := 60) (i := 1) C (dm_Ma_jump 31 rfl) rfl rfl rfl ?_
          refine gi_bipush (q := 62) (v := 19) C (dm_Ma_jump 32 rfl) rfl (by decide) ?_
          refine gi_icmp_eq (q := 65) (tgt := 86) C (dm_Ma_jump 33 rfl) rfl (by decide) (fun c62 => ?_) (fun c62 => ?_)
          · exact absurd c62 (by rw [jo19]; exact d19)
          · refine gi_aload_n (q := 66) (i := 0) C (dm_Ma_jump 34 rfl) rfl rfl rfl ?_
            refine gi_callv 0 (q := 69) C (dm_Ma_jump 35 rfl) rfl my_Ma_pop lk_Ma_177 im_Ma_pop rfl (c_Ma_pop (hn d19) Hw) Q.ob rfl rfl ⟨(Nat.le_of_ble_eq_true rfl), (Nat.le_of_ble_eq_true rfl)⟩ (Nat.le_of_ble_eq_true rfl) ⟨(Nat.le_of_ble_eq_true rfl), (Nat.le_of_ble_eq_true rfl)⟩ (fun r66 n66 h66 e66 => ?_)
            obtain ⟨rfl, rfl, W66⟩ := e66
            obtain ⟨F66, J66, Q66, R66⟩ := id W66
            refine gi_istore (q := 71) C (dm_Ma_jump 36 rfl) rfl (Nat.le_of_ble_eq_true rfl) ?_
            refine gi_aload_n (q := 72) (i := 0) C (dm_Ma_jump 37 rfl) rfl rfl rfl ?_
            refine gi_callv 0 (q := 75) C (dm_Ma_jump 38 rfl) rfl my_Ma_pop lk_Ma_177 im_Ma_pop rfl (c_Ma_pop (by rw [cur_pop]; show 1 ≤ z.cur.n - 1; have := hn2 e1 e2; omega) W66) Q66.ob rfl rfl ⟨(Nat.le_of_ble_eq_true rfl), (Nat.le_of_ble_eq_true rfl)⟩ (Nat.le_of_ble_eq_true rfl) ⟨(Nat.le_of_ble_eq_true rfl), (Nat.le_of_ble_eq_true rfl)⟩ (fun r72 n72 h72 e72 => ?_)
            obtain ⟨rfl, rfl, W72⟩ := e72
            obtain ⟨F72, J72, Q72, R72⟩ := id W72
            refine gi_istore (q := 77) C (dm_Ma_jump 39 rfl) rfl (Nat.le_of_ble_eq_true rfl) ?_
            refine gi_iload_n (q := 78) (i := 1) C (dm_Ma_jump 40 rfl) rfl rfl rfl ?_
            refine gi_iload (q := 80) C (dm_Ma_jump 41 rfl) rfl rfl ?_
            refine gi_iload (q := 82) C (dm_Ma_jump 42 rfl) rfl rfl ?_
            refine gi_calls 3 (q := 85) C (dm_Ma_jump 43 rfl) rfl my_Ma_compares lk_Ma_187 sm_Ma_compares (c_Ma_compares op _ _ e1 e2) rfl rfl ⟨(Nat.le_of_ble_eq_true rfl), (Nat.le_of_ble_eq_true rfl)⟩ (Nat.le_of_ble_eq_true rfl) ⟨(Nat.le_of_ble_eq_true rfl), (Nat.le_of_ble_eq_true rfl)⟩ (fun r82 n82 h82 e82 => ?_)
            obtain ⟨rfl, q82, u82⟩ := e82
            rw [q82, u82]
            refine gi_istore_n (q := 86) (i := 3) C (dm_Ma_jump 44 rfl) rfl rfl (Nat.le_of_ble_eq_true rfl) ?_
            refine gi_iload_n (q := 87) (i := 3) C (dm_Ma_jump 45 rfl) rfl rfl rfl ?_
            refine gi_if_eq (q := 90) (tgt := 100) C (dm_Ma_jump 46 rfl) rfl (by decide) (fun c87 => ?_) (fun c87 => ?_)
            · (try rw [nI_clamp (show (popZ (popZ z)).top < 2 ^ 31 by show z.top < 2 ^ 31; omega)])
              refine gi_iconst (q := 101) (v := 0) C (dm_Ma_jump 53 rfl) rfl (by decide) ?_
              refine gi_iret C hr (dm_Ma_jump 54 rfl) ?_
              have ej : jmpZ op x z = if cmpI op (topV (popZ z)) (topV z) = true then gotZ (popZ (popZ z)) x else popZ (popZ z) := by
                unfold jmpZ
                rw [if_neg d19, if_neg d26, if_neg d27]
              rw [ej]
              first
                | (rw [if_pos (bI_t c87)]; exact ⟨rfl, rfl, MW.got Q72 R72⟩)
                | (rw [if_neg (by rw [bI_fa c87]; decide)]; exact ⟨rfl, rfl, W72⟩)
            · refine gi_aload_n (q := 91) (i := 0) C (dm_Ma_jump 47 rfl) rfl rfl rfl ?_
              refine gi_get (q := 94) C (dm_Ma_jump 48 rfl) rfl fl_Ma_39 Q72.ob rfl ?_
              refine gi_aload_n (q := 95) (i := 0) C (dm_Ma_jump 49 rfl) rfl rfl rfl ?_
              refine gi_get (q := 98) C (dm_Ma_jump 50 rfl) rfl fl_Ma_72 Q72.ob rfl ?_
              refine gi_iload_n (q := 99) (i := 2) C (dm_Ma_jump 51 rfl) rfl rfl rfl ?_
              refine gi_iast (q := 100) C (dm_Ma_jump 52 rfl) rfl rfl Q72.a11 (in16 t16) ?_
              (try rw [nI_clamp (show (popZ (popZ z)).top < 2 ^ 31 by show z.top < 2 ^ 31; omega)])
              refine gi_iconst (q := 101) (v := 0) C (dm_Ma_jump 53 rfl) rfl (by decide) ?_
              refine gi_iret C hr (dm_Ma_jump 54 rfl) ?_
              have ej : jmpZ op x z = if cmpI op (topV (popZ z)) (topV z) = true then gotZ (popZ (popZ z)) x else popZ (popZ z) := by
                unfold jmpZ
                rw [if_neg d19, if_neg d26, if_neg d27]
              rw [ej]
              first
                | (rw [if_pos (bI_t c87)]; exact ⟨rfl, rfl, MW.got Q72 R72⟩)
                | (rw [if_neg (by rw [bI_fa c87]; decide)]; exact ⟨rfl, rfl, W72⟩)
        · exact absurd c21 (by rw [jo27]; exact d27)
    · exact absurd c3 (by rw [jo19]; exact d19)
end MA2
