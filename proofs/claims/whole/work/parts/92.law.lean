section LAW
section SCR
variable {p : Program} {l : Launch} {e : Env} {R : Room} {s : State} {m : MethodId} {args : Array Value} {below : List Frame} {meth : Method} {c : Code} {Q : State → Prop} {cc : ByteArray} {nL : Nat} {own : String} {V : gi_V} {cells slots pc n : Nat} {L : List (Nat × Value)} {st : List Value} {h : gi_H}
theorem gi_sld {b Lx j q : Nat} {xs : Nat → Int32} {i : Int32} (C : gi_C p s m args meth c cc nL own V) (hX : va_X b Lx xs s s.heap) (hbV : b < s.heap.size ∧ ¬ V.2.2 ≤ b) (hd : decode cc pc = .ok (.iaload, 1)) (hq : pc + 1 = q) (hi : i = nI j) (hj : j < Lx ∧ j < 2 ^ 31) (k : gi_G p l e R s m args below meth c Q V nL cells slots q L (.int (xs j) :: st) n h) : gi_G p l e R s m args below meth c Q V nL cells slots pc L (.int i :: .ref b :: st) n h := by
  subst hq
  subst hi
  intro ls H locs hl hh hs
  refine va_sld C.1 C.2.1 hX hbV.1 hbV.2 hs ?_ hd ?_
  · intro q
    rcases q with q | q
    · have := nI_toInt hj.2
      rw [Int32.lt_iff_toInt_lt, this] at q
      have h0 : Int32.toInt 0 = 0 := by decide
      omega
    · rw [nI_clamp hj.2] at q
      omega
  · rw [nI_clamp hj.2]
    exact k ls H locs hl hh hs
theorem gi_slen {b Lx q : Nat} {xs : Nat → Int32} (C : gi_C p s m args meth c cc nL own V) (hX : va_X b Lx xs s s.heap) (hbV : b < s.heap.size ∧ ¬ V.2.2 ≤ b) (hd : decode cc pc = .ok (.arraylength, 1)) (hq : pc + 1 = q) (k : gi_G p l e R s m args below meth c Q V nL cells slots q L (.int (nI Lx) :: st) n h) : gi_G p l e R s m args below meth c Q V nL cells slots pc L (.ref b :: st) n h := by
  subst hq
  exact fun ls H locs hl hh hs => va_slen C.1 C.2.1 hX hbV.1 hbV.2 hs hd (k ls H locs hl hh hs)
end SCR
variable {p : Program} {l : Launch} {e : Env} {s : State} {m : MethodId} {below : List Frame} {meth : Method} {c : Code} {V : gi_V} {b Lx X M n k : Nat} {xs : Nat → Int32} {h : gi_H} {P : gi_H → Prop}
abbrev lwG (p : Program) (l : Launch) (e : Env) (s : State) (m : MethodId) (b : Nat) (below : List Frame) (meth : Method) (c : Code) (V : gi_V) (pc : Nat) (L : List (Nat × Value)) (st : List Value) (n : Nat) (h : gi_H) : Prop := gi_G p l e room_1 s m #[Value.ref b] below meth c (lw_Z below #[Value.ref b] s) V 4 16979 213335 pc L st n h
theorem lw_cmp0 (x : Int64) : lg_cmp x x = 0 := by simp [lg_cmp]
/-- H_method of both, one behind the other: the same answer -/
def cj_0 (l : Launch) (V : gi_V) (X M n : Nat) (x y z u : Int32) (h : gi_H) (P : gi_H → Prop) : Prop := ∃ Mid : Int32 → gi_H → Prop, gi_T l V y_H_method b_H_method 6 (some .int) 1 24 0 0 [.ref X, .int x, .int y, .int z, .int u] n h (fun r n' h' => n' = n ∧ ∃ v, r = some (.int v) ∧ Mid v h') ∧ ∀ v h1, Mid v h1 → (∃ fs, h1 M = some (gi_O 12 fs)) ∧ gi_T l V y_Mo_method b_Mo_method 6 (some .int) 0 0 0 0 [.ref M, .int x, .int y, .int z, .int u] n h1 (fun r n' h' => n' = n ∧ r = some (.int v) ∧ P h')
set_option maxHeartbeats 4000000 in
set_option maxRecDepth 100000 in
theorem lw_s0 (C : gi_C p s m #[Value.ref b] meth c code 4 R_La V) (hX : va_X b Lx xs s s.heap) (hbV : b < s.heap.size ∧ ¬ V.2.2 ≤ b) (hk : 6 * k + 6 ≤ Lx) (hLx : Lx ≤ 3072) (hx : ∃ fs, h X = some (gi_O 0 fs)) (hc : cj_0 l V X M n (xs (6 * k + 1)) (xs (6 * k + 2)) (xs (6 * k + 3)) (xs (6 * k + 4)) h P) (kk : ∀ h', P h' → lwG p l e s m b below meth c V 837 [(3, .int (nI (6 * k))), (2, .ref M), (1, .ref X), (0, .ref b)] [] n h') : lwG p l e s m b below meth c V 136 [(3, .int (nI (6 * k))), (2, .ref M), (1, .ref X), (0, .ref b)] [] n h := by
  obtain ⟨fs, hx⟩ := hx
  obtain ⟨Mid, hH, hT⟩ := hc
  refine gi_aload_n (q := 137) (i := 1) C (dm_La_law 22 rfl) rfl rfl rfl ?_
  refine gi_aload_n (q := 138) (i := 0) C (dm_La_law 23 rfl) rfl rfl rfl ?_
  refine gi_iload_n (q := 139) (i := 3) C (dm_La_law 24 rfl) rfl rfl rfl ?_
  refine gi_iconst (q := 140) (v := 1) C (dm_La_law 25 rfl) rfl (by decide) ?_
  refine gi_iadd (q := 141) C (dm_La_law 26 rfl) rfl ?_
  refine gi_sld (q := 142) (j := 6 * k + 1) C hX hbV (dm_La_law 27 rfl) rfl (by rw [show (1 : Int32) = nI 1 from rfl, nI_add]) ⟨by omega, by omega⟩ ?_
  refine gi_aload_n (q := 143) (i := 0) C (dm_La_law 28 rfl) rfl rfl rfl ?_
  refine gi_iload_n (q := 144) (i := 3) C (dm_La_law 29 rfl) rfl rfl rfl ?_
  refine gi_iconst (q := 145) (v := 2) C (dm_La_law 30 rfl) rfl (by decide) ?_
  refine gi_iadd (q := 146) C (dm_La_law 31 rfl) rfl ?_
  refine gi_sld (q := 147) (j := 6 * k + 2) C hX hbV (dm_La_law 32 rfl) rfl (by rw [show (2 : Int32) = nI 2 from rfl, nI_add]) ⟨by omega, by omega⟩ ?_
  refine gi_aload_n (q := 148) (i := 0) C (dm_La_law 33 rfl) rfl rfl rfl ?_
  refine gi_iload_n (q := 149) (i := 3) C (dm_La_law 34 rfl) rfl rfl rfl ?_
  refine gi_iconst (q := 150) (v := 3) C (dm_La_law 35 rfl) rfl (by decide) ?_
  refine gi_iadd (q := 151) C (dm_La_law 36 rfl) rfl ?_
  refine gi_sld (q := 152) (j := 6 * k + 3) C hX hbV (dm_La_law 37 rfl) rfl (by rw [show (3 : Int32) = nI 3 from rfl, nI_add]) ⟨by omega, by omega⟩ ?_
  refine gi_aload_n (q := 153) (i := 0) C (dm_La_law 38 rfl) rfl rfl rfl ?_
  refine gi_iload_n (q := 154) (i := 3) C (dm_La_law 39 rfl) rfl rfl rfl ?_
  refine gi_iconst (q := 155) (v := 4) C (dm_La_law 40 rfl) rfl (by decide) ?_
  refine gi_iadd (q := 156) C (dm_La_law 41 rfl) rfl ?_
  refine gi_sld (q := 157) (j := 6 * k + 4) C hX hbV (dm_La_law 42 rfl) rfl (by rw [show (4 : Int32) = nI 4 from rfl, nI_add]) ⟨by omega, by omega⟩ ?_
  refine gi_callv 4 (q := 160) C (dm_La_law 43 rfl) rfl my_H_method lk_La_13 im_H_method rfl (hH) hx rfl rfl ⟨(Nat.le_of_ble_eq_true rfl), (Nat.le_of_ble_eq_true rfl)⟩ (Nat.le_of_ble_eq_true rfl) ⟨(Nat.le_of_ble_eq_true rfl), (Nat.le_of_ble_eq_true rfl)⟩ (fun r157 n157 h157 e157 => ?_)
  obtain ⟨rfl, v, rfl, hm⟩ := e157
  obtain ⟨⟨gs, hM⟩, hMM⟩ := hT _ _ hm
  refine gi_aload_n (q := 161) (i := 2) C (dm_La_law 44 rfl) rfl rfl rfl ?_
  refine gi_aload_n (q := 162) (i := 0) C (dm_La_law 45 rfl) rfl rfl rfl ?_
  refine gi_iload_n (q := 163) (i := 3) C (dm_La_law 46 rfl) rfl rfl rfl ?_
  refine gi_iconst (q := 164) (v := 1) C (dm_La_law 47 rfl) rfl (by decide) ?_
  refine gi_iadd (q := 165) C (dm_La_law 48 rfl) rfl ?_
  refine gi_sld (q := 166) (j := 6 * k + 1) C hX hbV (dm_La_law 49 rfl) rfl (by rw [show (1 : Int32) = nI 1 from rfl, nI_add]) ⟨by omega, by omega⟩ ?_
  refine gi_aload_n (q := 167) (i := 0) C (dm_La_law 50 rfl) rfl rfl rfl ?_
  refine gi_iload_n (q := 168) (i := 3) C (dm_La_law 51 rfl) rfl rfl rfl ?_
  refine gi_iconst (q := 169) (v := 2) C (dm_La_law 52 rfl) rfl (by decide) ?_
  refine gi_iadd (q := 170) C (dm_La_law 53 rfl) rfl ?_
  refine gi_sld (q := 171) (j := 6 * k + 2) C hX hbV (dm_La_law 54 rfl) rfl (by rw [show (2 : Int32) = nI 2 from rfl, nI_add]) ⟨by omega, by omega⟩ ?_
  refine gi_aload_n (q := 172) (i := 0) C (dm_La_law 55 rfl) rfl rfl rfl ?_
  refine gi_iload_n (q := 173) (i := 3) C (dm_La_law 56 rfl) rfl rfl rfl ?_
  refine gi_iconst (q := 174) (v := 3) C (dm_La_law 57 rfl) rfl (by decide) ?_
  refine gi_iadd (q := 175) C (dm_La_law 58 rfl) rfl ?_
  refine gi_sld (q := 176) (j := 6 * k + 3) C hX hbV (dm_La_law 59 rfl) rfl (by rw [show (3 : Int32) = nI 3 from rfl, nI_add]) ⟨by omega, by omega⟩ ?_
  refine gi_aload_n (q := 177) (i := 0) C (dm_La_law 60 rfl) rfl rfl rfl ?_
  refine gi_iload_n (q := 178) (i := 3) C (dm_La_law 61 rfl) rfl rfl rfl ?_
  refine gi_iconst (q := 179) (v := 4) C (dm_La_law 62 rfl) rfl (by decide) ?_
  refine gi_iadd (q := 180) C (dm_La_law 63 rfl) rfl ?_
  refine gi_sld (q := 181) (j := 6 * k + 4) C hX hbV (dm_La_law 64 rfl) rfl (by rw [show (4 : Int32) = nI 4 from rfl, nI_add]) ⟨by omega, by omega⟩ ?_
  refine gi_callv 4 (q := 184) C (dm_La_law 65 rfl) rfl my_Mo_method lk_La_17 im_Mo_method rfl (hMM) hM rfl rfl ⟨(Nat.le_of_ble_eq_true rfl), (Nat.le_of_ble_eq_true rfl)⟩ (Nat.le_of_ble_eq_true rfl) ⟨(Nat.le_of_ble_eq_true rfl), (Nat.le_of_ble_eq_true rfl)⟩ (fun r181 n181 h181 e181 => ?_)
  obtain ⟨rfl, rfl, hP⟩ := e181
  refine gi_icmp_eq (q := 187) (tgt := 837) C (dm_La_law 66 rfl) rfl (by decide) (fun c184 => ?_) (fun c184 => ?_)
  · exact kk _ hP
  · exact absurd rfl c184
/-- H_code of both, one behind the other: the same answer -/
def cj_1 (l : Launch) (V : gi_V) (X M n : Nat) (x y z : Int32) (h : gi_H) (P : gi_H → Prop) : Prop := ∃ Mid : Int32 → gi_H → Prop, gi_T l V y_H_code b_H_code 5 (some .int) 2 45 0 0 [.ref X, .int x, .int y, .int z] n h (fun r n' h' => n' = n ∧ ∃ v, r = some (.int v) ∧ Mid v h') ∧ ∀ v h1, Mid v h1 → (∃ fs, h1 M = some (gi_O 12 fs)) ∧ gi_T l V y_Mo_code b_Mo_code 5 (some .int) 1 21 0 0 [.ref M, .int x, .int y, .int z] n h1 (fun r n' h' => n' = n ∧ r = some (.int v) ∧ P h')
set_option maxHeartbeats 4000000 in
set_option maxRecDepth 100000 in
theorem lw_s1 (C : gi_C p s m #[Value.ref b] meth c code 4 R_La V) (hX : va_X b Lx xs s s.heap) (hbV : b < s.heap.size ∧ ¬ V.2.2 ≤ b) (hk : 6 * k + 6 ≤ Lx) (hLx : Lx ≤ 3072) (hx : ∃ fs, h X = some (gi_O 0 fs)) (hc : cj_1 l V X M n (xs (6 * k + 1)) (xs (6 * k + 2)) (xs (6 * k + 3)) h P) (kk : ∀ h', P h' → lwG p l e s m b below meth c V 837 [(3, .int (nI (6 * k))), (2, .ref M), (1, .ref X), (0, .ref b)] [] n h') : lwG p l e s m b below meth c V 189 [(3, .int (nI (6 * k))), (2, .ref M), (1, .ref X), (0, .ref b)] [] n h := by
  obtain ⟨fs, hx⟩ := hx
  obtain ⟨Mid, hH, hT⟩ := hc
  refine gi_aload_n (q := 190) (i := 1) C (dm_La_law 69 rfl) rfl rfl rfl ?_
  refine gi_aload_n (q := 191) (i := 0) C (dm_La_law 70 rfl) rfl rfl rfl ?_
  refine gi_iload_n (q := 192) (i := 3) C (dm_La_law 71 rfl) rfl rfl rfl ?_
  refine gi_iconst (q := 193) (v := 1) C (dm_La_law 72 rfl) rfl (by decide) ?_
  refine gi_iadd (q := 194) C (dm_La_law 73 rfl) rfl ?_
  refine gi_sld (q := 195) (j := 6 * k + 1) C hX hbV (dm_La_law 74 rfl) rfl (by rw [show (1 : Int32) = nI 1 from rfl, nI_add]) ⟨by omega, by omega⟩ ?_
  refine gi_aload_n (q := 196) (i := 0) C (dm_La_law 75 rfl) rfl rfl rfl ?_
  refine gi_iload_n (q := 197) (i := 3) C (dm_La_law 76 rfl) rfl rfl rfl ?_
  refine gi_iconst (q := 198) (v := 2) C (dm_La_law 77 rfl) rfl (by decide) ?_
  refine gi_iadd (q := 199) C (dm_La_law 78 rfl) rfl ?_
  refine gi_sld (q := 200) (j := 6 * k + 2) C hX hbV (dm_La_law 79 rfl) rfl (by rw [show (2 : Int32) = nI 2 from rfl, nI_add]) ⟨by omega, by omega⟩ ?_
  refine gi_aload_n (q := 201) (i := 0) C (dm_La_law 80 rfl) rfl rfl rfl ?_
  refine gi_iload_n (q := 202) (i := 3) C (dm_La_law 81 rfl) rfl rfl rfl ?_
  refine gi_iconst (q := 203) (v := 3) C (dm_La_law 82 rfl) rfl (by decide) ?_
  refine gi_iadd (q := 204) C (dm_La_law 83 rfl) rfl ?_
  refine gi_sld (q := 205) (j := 6 * k + 3) C hX hbV (dm_La_law 84 rfl) rfl (by rw [show (3 : Int32) = nI 3 from rfl, nI_add]) ⟨by omega, by omega⟩ ?_
  refine gi_callv 3 (q := 208) C (dm_La_law 85 rfl) rfl my_H_code lk_La_18 im_H_code rfl (hH) hx rfl rfl ⟨(Nat.le_of_ble_eq_true rfl), (Nat.le_of_ble_eq_true rfl)⟩ (Nat.le_of_ble_eq_true rfl) ⟨(Nat.le_of_ble_eq_true rfl), (Nat.le_of_ble_eq_true rfl)⟩ (fun r205 n205 h205 e205 => ?_)
  obtain ⟨rfl, v, rfl, hm⟩ := e205
  obtain ⟨⟨gs, hM⟩, hMM⟩ := hT _ _ hm
  refine gi_aload_n (q := 209) (i := 2) C (dm_La_law 86 rfl) rfl rfl rfl ?_
  refine gi_aload_n (q := 210) (i := 0) C (dm_La_law 87 rfl) rfl rfl rfl ?_
  refine gi_iload_n (q := 211) (i := 3) C (dm_La_law 88 rfl) rfl rfl rfl ?_
  refine gi_iconst (q := 212) (v := 1) C (dm_La_law 89 rfl) rfl (by decide) ?_
  refine gi_iadd (q := 213) C (dm_La_law 90 rfl) rfl ?_
  refine gi_sld (q := 214) (j := 6 * k + 1) C hX hbV (dm_La_law 91 rfl) rfl (by rw [show (1 : Int32) = nI 1 from rfl, nI_add]) ⟨by omega, by omega⟩ ?_
  refine gi_aload_n (q := 215) (i := 0) C (dm_La_law 92 rfl) rfl rfl rfl ?_
  refine gi_iload_n (q := 216) (i := 3) C (dm_La_law 93 rfl) rfl rfl rfl ?_
  refine gi_iconst (q := 217) (v := 2) C (dm_La_law 94 rfl) rfl (by decide) ?_
  refine gi_iadd (q := 218) C (dm_La_law 95 rfl) rfl ?_
  refine gi_sld (q := 219) (j := 6 * k + 2) C hX hbV (dm_La_law 96 rfl) rfl (by rw [show (2 : Int32) = nI 2 from rfl, nI_add]) ⟨by omega, by omega⟩ ?_
  refine gi_aload_n (q := 220) (i := 0) C (dm_La_law 97 rfl) rfl rfl rfl ?_
  refine gi_iload_n (q := 221) (i := 3) C (dm_La_law 98 rfl) rfl rfl rfl ?_
  refine gi_iconst (q := 222) (v := 3) C (dm_La_law 99 rfl) rfl (by decide) ?_
  refine gi_iadd (q := 223) C (dm_La_law 100 rfl) rfl ?_
  refine gi_sld (q := 224) (j := 6 * k + 3) C hX hbV (dm_La_law 101 rfl) rfl (by rw [show (3 : Int32) = nI 3 from rfl, nI_add]) ⟨by omega, by omega⟩ ?_
  refine gi_callv 3 (q := 227) C (dm_La_law 102 rfl) rfl my_Mo_code lk_La_22 im_Mo_code rfl (hMM) hM rfl rfl ⟨(Nat.le_of_ble_eq_true rfl), (Nat.le_of_ble_eq_true rfl)⟩ (Nat.le_of_ble_eq_true rfl) ⟨(Nat.le_of_ble_eq_true rfl), (Nat.le_of_ble_eq_true rfl)⟩ (fun r224 n224 h224 e224 => ?_)
  obtain ⟨rfl, rfl, hP⟩ := e224
  refine gi_icmp_eq (q := 230) (tgt := 837) C (dm_La_law 103 rfl) rfl (by decide) (fun c227 => ?_) (fun c227 => ?_)
  · exact kk _ hP
  · exact absurd rfl c227
/-- H_wipe of both, one behind the other: the same answer -/
def cj_2 (l : Launch) (V : gi_V) (X M n : Nat) (x : Int32) (h : gi_H) (P : gi_H → Prop) : Prop := ∃ Mid : Int32 → gi_H → Prop, gi_T l V y_H_wipe b_H_wipe 3 (some .int) 2 43 0 0 [.ref X, .int x] n h (fun r n' h' => n' = n ∧ ∃ v, r = some (.int v) ∧ Mid v h') ∧ ∀ v h1, Mid v h1 → (∃ fs, h1 M = some (gi_O 12 fs)) ∧ gi_T l V y_Mo_wipe b_Mo_wipe 3 (some .int) 1 21 0 0 [.ref M, .int x] n h1 (fun r n' h' => n' = n ∧ r = some (.int v) ∧ P h')
set_option maxHeartbeats 4000000 in
set_option maxRecDepth 100000 in
theorem lw_s2 (C : gi_C p s m #[Value.ref b] meth c code 4 R_La V) (hX : va_X b Lx xs s s.heap) (hbV : b < s.heap.size ∧ ¬ V.2.2 ≤ b) (hk : 6 * k + 6 ≤ Lx) (hLx : Lx ≤ 3072) (hx : ∃ fs, h X = some (gi_O 0 fs)) (hc : cj_2 l V X M n (xs (6 * k + 1)) h P) (kk : ∀ h', P h' → lwG p l e s m b below meth c V 837 [(3, .int (nI (6 * k))), (2, .ref M), (1, .ref X), (0, .ref b)] [] n h') : lwG p l e s m b below meth c V 232 [(3, .int (nI (6 * k))), (2, .ref M), (1, .ref X), (0, .ref b)] [] n h := by
  obtain ⟨fs, hx⟩ := hx
  obtain ⟨Mid, hH, hT⟩ := hc
  refine gi_aload_n (q := 233) (i := 1) C (dm_La_law 106 rfl) rfl rfl rfl ?_
  refine gi_aload_n (q := 234) (i := 0) C (dm_La_law 107 rfl) rfl rfl rfl ?_
  refine gi_iload_n (q := 235) (i := 3) C (dm_La_law 108 rfl) rfl rfl rfl ?_
  refine gi_iconst (q := 236) (v := 1) C (dm_La_law 109 rfl) rfl (by decide) ?_
  refine gi_iadd (q := 237) C (dm_La_law 110 rfl) rfl ?_
  refine gi_sld (q := 238) (j := 6 * k + 1) C hX hbV (dm_La_law 111 rfl) rfl (by rw [show (1 : Int32) = nI 1 from rfl, nI_add]) ⟨by omega, by omega⟩ ?_
  refine gi_callv 1 (q := 241) C (dm_La_law 112 rfl) rfl my_H_wipe lk_La_23 im_H_wipe rfl (hH) hx rfl rfl ⟨(Nat.le_of_ble_eq_true rfl), (Nat.le_of_ble_eq_true rfl)⟩ (Nat.le_of_ble_eq_true rfl) ⟨(Nat.le_of_ble_eq_true rfl), (Nat.le_of_ble_eq_true rfl)⟩ (fun r238 n238 h238 e238 => ?_)
  obtain ⟨rfl, v, rfl, hm⟩ := e238
  obtain ⟨⟨gs, hM⟩, hMM⟩ := hT _ _ hm
  refine gi_aload_n (q := 242) (i := 2) C (dm_La_law 113 rfl) rfl rfl rfl ?_
  refine gi_aload_n (q := 243) (i := 0) C (dm_La_law 114 rfl) rfl rfl rfl ?_
  refine gi_iload_n (q := 244) (i := 3) C (dm_La_law 115 rfl) rfl rfl rfl ?_
  refine gi_iconst (q := 245) (v := 1) C (dm_La_law 116 rfl) rfl (by decide) ?_
  refine gi_iadd (q := 246) C (dm_La_law 117 rfl) rfl ?_
  refine gi_sld (q := 247) (j := 6 * k + 1) C hX hbV (dm_La_law 118 rfl) rfl (by rw [show (1 : Int32) = nI 1 from rfl, nI_add]) ⟨by omega, by omega⟩ ?_
  refine gi_callv 1 (q := 250) C (dm_La_law 119 rfl) rfl my_Mo_wipe lk_La_27 im_Mo_wipe rfl (hMM) hM rfl rfl ⟨(Nat.le_of_ble_eq_true rfl), (Nat.le_of_ble_eq_true rfl)⟩ (Nat.le_of_ble_eq_true rfl) ⟨(Nat.le_of_ble_eq_true rfl), (Nat.le_of_ble_eq_true rfl)⟩ (fun r247 n247 h247 e247 => ?_)
  obtain ⟨rfl, rfl, hP⟩ := e247
  refine gi_icmp_eq (q := 253) (tgt := 837) C (dm_La_law 120 rfl) rfl (by decide) (fun c250 => ?_) (fun c250 => ?_)
  · exact kk _ hP
  · exact absurd rfl c250
/-- H_build of both, one behind the other: the same answer -/
def cj_3 (l : Launch) (V : gi_V) (X M n : Nat) (h : gi_H) (P : gi_H → Prop) : Prop := ∃ Mid : Int32 → gi_H → Prop, gi_T l V y_H_build b_H_build 1 (some .int) 6 138 0 0 [.ref X] n h (fun r n' h' => n' = n ∧ ∃ v, r = some (.int v) ∧ Mid v h') ∧ ∀ v h1, Mid v h1 → (∃ fs, h1 M = some (gi_O 12 fs)) ∧ gi_T l V y_Mo_build b_Mo_build 4 (some .int) 4 91 0 0 [.ref M] n h1 (fun r n' h' => n' = n ∧ r = some (.int v) ∧ P h')
set_option maxHeartbeats 4000000 in
set_option maxRecDepth 100000 in
theorem lw_s3 (C : gi_C p s m #[Value.ref b] meth c code 4 R_La V) (hX : va_X b Lx xs s s.heap) (hbV : b < s.heap.size ∧ ¬ V.2.2 ≤ b) (hk : 6 * k + 6 ≤ Lx) (hLx : Lx ≤ 3072) (hx : ∃ fs, h X = some (gi_O 0 fs)) (hc : cj_3 l V X M n  h P) (kk : ∀ h', P h' → lwG p l e s m b below meth c V 837 [(3, .int (nI (6 * k))), (2, .ref M), (1, .ref X), (0, .ref b)] [] n h') : lwG p l e s m b below meth c V 255 [(3, .int (nI (6 * k))), (2, .ref M), (1, .ref X), (0, .ref b)] [] n h := by
  obtain ⟨fs, hx⟩ := hx
  obtain ⟨Mid, hH, hT⟩ := hc
  refine gi_aload_n (q := 256) (i := 1) C (dm_La_law 123 rfl) rfl rfl rfl ?_
  refine gi_callv 0 (q := 259) C (dm_La_law 124 rfl) rfl my_H_build lk_La_28 im_H_build rfl (hH) hx rfl rfl ⟨(Nat.le_of_ble_eq_true rfl), (Nat.le_of_ble_eq_true rfl)⟩ (Nat.le_of_ble_eq_true rfl) ⟨(Nat.le_of_ble_eq_true rfl), (Nat.le_of_ble_eq_true rfl)⟩ (fun r256 n256 h256 e256 => ?_)
  obtain ⟨rfl, v, rfl, hm⟩ := e256
  obtain ⟨⟨gs, hM⟩, hMM⟩ := hT _ _ hm
  refine gi_aload_n (q := 260) (i := 2) C (dm_La_law 125 rfl) rfl rfl rfl ?_
  refine gi_callv 0 (q := 263) C (dm_La_law 126 rfl) rfl my_Mo_build lk_La_32 im_Mo_build rfl (hMM) hM rfl rfl ⟨(Nat.le_of_ble_eq_true rfl), (Nat.le_of_ble_eq_true rfl)⟩ (Nat.le_of_ble_eq_true rfl) ⟨(Nat.le_of_ble_eq_true rfl), (Nat.le_of_ble_eq_true rfl)⟩ (fun r260 n260 h260 e260 => ?_)
  obtain ⟨rfl, rfl, hP⟩ := e260
  refine gi_icmp_eq (q := 266) (tgt := 837) C (dm_La_law 127 rfl) rfl (by decide) (fun c263 => ?_) (fun c263 => ?_)
  · exact kk _ hP
  · exact absurd rfl c263
/-- H_faultAt of both, one behind the other: the same answer -/
def cj_4 (l : Launch) (V : gi_V) (X M n : Nat) (x : Int32) (h : gi_H) (P : gi_H → Prop) : Prop := ∃ Mid : Int32 → gi_H → Prop, gi_T l V y_H_faultAt b_H_faultAt 2 (some .int) 0 0 0 0 [.ref X, .int x] n h (fun r n' h' => n' = n ∧ ∃ v, r = some (.int v) ∧ Mid v h') ∧ ∀ v h1, Mid v h1 → (∃ fs, h1 M = some (gi_O 12 fs)) ∧ gi_T l V y_Mo_faultAt b_Mo_faultAt 2 (some .int) 0 0 0 0 [.ref M, .int x] n h1 (fun r n' h' => n' = n ∧ r = some (.int v) ∧ P h')
set_option maxHeartbeats 4000000 in
set_option maxRecDepth 100000 in
theorem lw_s4 (C : gi_C p s m #[Value.ref b] meth c code 4 R_La V) (hX : va_X b Lx xs s s.heap) (hbV : b < s.heap.size ∧ ¬ V.2.2 ≤ b) (hk : 6 * k + 6 ≤ Lx) (hLx : Lx ≤ 3072) (hx : ∃ fs, h X = some (gi_O 0 fs)) (hc : cj_4 l V X M n (xs (6 * k + 1)) h P) (kk : ∀ h', P h' → lwG p l e s m b below meth c V 837 [(3, .int (nI (6 * k))), (2, .ref M), (1, .ref X), (0, .ref b)] [] n h') : lwG p l e s m b below meth c V 268 [(3, .int (nI (6 * k))), (2, .ref M), (1, .ref X), (0, .ref b)] [] n h := by
  obtain ⟨fs, hx⟩ := hx
  obtain ⟨Mid, hH, hT⟩ := hc
  refine gi_aload_n (q := 269) (i := 1) C (dm_La_law 130 rfl) rfl rfl rfl ?_
  refine gi_aload_n (q := 270) (i := 0) C (dm_La_law 131 rfl) rfl rfl rfl ?_
  refine gi_iload_n (q := 271) (i := 3) C (dm_La_law 132 rfl) rfl rfl rfl ?_
  refine gi_iconst (q := 272) (v := 1) C (dm_La_law 133 rfl) rfl (by decide) ?_
  refine gi_iadd (q := 273) C (dm_La_law 134 rfl) rfl ?_
  refine gi_sld (q := 274) (j := 6 * k + 1) C hX hbV (dm_La_law 135 rfl) rfl (by rw [show (1 : Int32) = nI 1 from rfl, nI_add]) ⟨by omega, by omega⟩ ?_
  refine gi_callv 1 (q := 277) C (dm_La_law 136 rfl) rfl my_H_faultAt lk_La_33 im_H_faultAt rfl (hH) hx rfl rfl ⟨(Nat.le_of_ble_eq_true rfl), (Nat.le_of_ble_eq_true rfl)⟩ (Nat.le_of_ble_eq_true rfl) ⟨(Nat.le_of_ble_eq_true rfl), (Nat.le_of_ble_eq_true rfl)⟩ (fun r274 n274 h274 e274 => ?_)
  obtain ⟨rfl, v, rfl, hm⟩ := e274
  obtain ⟨⟨gs, hM⟩, hMM⟩ := hT _ _ hm
  refine gi_aload_n (q := 278) (i := 2) C (dm_La_law 137 rfl) rfl rfl rfl ?_
  refine gi_aload_n (q := 279) (i := 0) C (dm_La_law 138 rfl) rfl rfl rfl ?_
  refine gi_iload_n (q := 280) (i := 3) C (dm_La_law 139 rfl) rfl rfl rfl ?_
  refine gi_iconst (q := 281) (v := 1) C (dm_La_law 140 rfl) rfl (by decide) ?_
  refine gi_iadd (q := 282) C (dm_La_law 141 rfl) rfl ?_
  refine gi_sld (q := 283) (j := 6 * k + 1) C hX hbV (dm_La_law 142 rfl) rfl (by rw [show (1 : Int32) = nI 1 from rfl, nI_add]) ⟨by omega, by omega⟩ ?_
  refine gi_callv 1 (q := 286) C (dm_La_law 143 rfl) rfl my_Mo_faultAt lk_La_36 im_Mo_faultAt rfl (hMM) hM rfl rfl ⟨(Nat.le_of_ble_eq_true rfl), (Nat.le_of_ble_eq_true rfl)⟩ (Nat.le_of_ble_eq_true rfl) ⟨(Nat.le_of_ble_eq_true rfl), (Nat.le_of_ble_eq_true rfl)⟩ (fun r283 n283 h283 e283 => ?_)
  obtain ⟨rfl, rfl, hP⟩ := e283
  refine gi_icmp_eq (q := 289) (tgt := 837) C (dm_La_law 144 rfl) rfl (by decide) (fun c286 => ?_) (fun c286 => ?_)
  · exact kk _ hP
  · exact absurd rfl c286
/-- H_analyze of both, one behind the other: the same answer -/
def cj_5 (l : Launch) (V : gi_V) (X M n : Nat) (x : Int32) (h : gi_H) (P : gi_H → Prop) : Prop := ∃ Mid : Int32 → gi_H → Prop, gi_T l V y_H_analyze b_H_analyze 4 (some .int) 7 191 0 0 [.ref X, .int x] n h (fun r n' h' => n' = n ∧ ∃ v, r = some (.int v) ∧ Mid v h') ∧ ∀ v h1, Mid v h1 → (∃ fs, h1 M = some (gi_O 12 fs)) ∧ gi_T l V y_Mo_analyze b_Mo_analyze 4 (some .int) 8 252 0 0 [.ref M, .int x] n h1 (fun r n' h' => n' = n ∧ r = some (.int v) ∧ P h')
set_option maxHeartbeats 4000000 in
set_option maxRecDepth 100000 in
theorem lw_s5 (C : gi_C p s m #[Value.ref b] meth c code 4 R_La V) (hX : va_X b Lx xs s s.heap) (hbV : b < s.heap.size ∧ ¬ V.2.2 ≤ b) (hk : 6 * k + 6 ≤ Lx) (hLx : Lx ≤ 3072) (hx : ∃ fs, h X = some (gi_O 0 fs)) (hc : cj_5 l V X M n (xs (6 * k + 1)) h P) (kk : ∀ h', P h' → lwG p l e s m b below meth c V 837 [(3, .int (nI (6 * k))), (2, .ref M), (1, .ref X), (0, .ref b)] [] n h') : lwG p l e s m b below meth c V 291 [(3, .int (nI (6 * k))), (2, .ref M), (1, .ref X), (0, .ref b)] [] n h := by
  obtain ⟨fs, hx⟩ := hx
  obtain ⟨Mid, hH, hT⟩ := hc
  refine gi_aload_n (q := 292) (i := 1) C (dm_La_law 147 rfl) rfl rfl rfl ?_
  refine gi_aload_n (q := 293) (i := 0) C (dm_La_law 148 rfl) rfl rfl rfl ?_
  refine gi_iload_n (q := 294) (i := 3) C (dm_La_law 149 rfl) rfl rfl rfl ?_
  refine gi_iconst (q := 295) (v := 1) C (dm_La_law 150 rfl) rfl (by decide) ?_
  refine gi_iadd (q := 296) C (dm_La_law 151 rfl) rfl ?_
  refine gi_sld (q := 297) (j := 6 * k + 1) C hX hbV (dm_La_law 152 rfl) rfl (by rw [show (1 : Int32) = nI 1 from rfl, nI_add]) ⟨by omega, by omega⟩ ?_
  refine gi_callv 1 (q := 300) C (dm_La_law 153 rfl) rfl my_H_analyze lk_La_37 im_H_analyze rfl (hH) hx rfl rfl ⟨(Nat.le_of_ble_eq_true rfl), (Nat.le_of_ble_eq_true rfl)⟩ (Nat.le_of_ble_eq_true rfl) ⟨(Nat.le_of_ble_eq_true rfl), (Nat.le_of_ble_eq_true rfl)⟩ (fun r297 n297 h297 e297 => ?_)
  obtain ⟨rfl, v, rfl, hm⟩ := e297
  obtain ⟨⟨gs, hM⟩, hMM⟩ := hT _ _ hm
  refine gi_aload_n (q := 301) (i := 2) C (dm_La_law 154 rfl) rfl rfl rfl ?_
  refine gi_aload_n (q := 302) (i := 0) C (dm_La_law 155 rfl) rfl rfl rfl ?_
  refine gi_iload_n (q := 303) (i := 3) C (dm_La_law 156 rfl) rfl rfl rfl ?_
  refine gi_iconst (q := 304) (v := 1) C (dm_La_law 157 rfl) rfl (by decide) ?_
  refine gi_iadd (q := 305) C (dm_La_law 158 rfl) rfl ?_
  refine gi_sld (q := 306) (j := 6 * k + 1) C hX hbV (dm_La_law 159 rfl) rfl (by rw [show (1 : Int32) = nI 1 from rfl, nI_add]) ⟨by omega, by omega⟩ ?_
  refine gi_callv 1 (q := 309) C (dm_La_law 160 rfl) rfl my_Mo_analyze lk_La_40 im_Mo_analyze rfl (hMM) hM rfl rfl ⟨(Nat.le_of_ble_eq_true rfl), (Nat.le_of_ble_eq_true rfl)⟩ (Nat.le_of_ble_eq_true rfl) ⟨(Nat.le_of_ble_eq_true rfl), (Nat.le_of_ble_eq_true rfl)⟩ (fun r306 n306 h306 e306 => ?_)
  obtain ⟨rfl, rfl, hP⟩ := e306
  refine gi_icmp_eq (q := 312) (tgt := 837) C (dm_La_law 161 rfl) rfl (by decide) (fun c309 => ?_) (fun c309 => ?_)
  · exact kk _ hP
  · exact absurd rfl c309
/-- H_reached of both, one behind the other: the same answer -/
def cj_6 (l : Launch) (V : gi_V) (X M n : Nat) (x y : Int32) (h : gi_H) (P : gi_H → Prop) : Prop := ∃ Mid : Int32 → gi_H → Prop, gi_T l V y_H_reached b_H_reached 3 (some .boolean) 2 43 0 0 [.ref X, .int x, .int y] n h (fun r n' h' => n' = n ∧ ∃ v, r = some (.int v) ∧ Mid v h') ∧ ∀ v h1, Mid v h1 → (∃ fs, h1 M = some (gi_O 12 fs)) ∧ gi_T l V y_Mo_reached b_Mo_reached 3 (some .boolean) 2 43 0 0 [.ref M, .int x, .int y] n h1 (fun r n' h' => n' = n ∧ r = some (.int v) ∧ P h')
set_option maxHeartbeats 4000000 in
set_option maxRecDepth 100000 in
theorem lw_s6 (C : gi_C p s m #[Value.ref b] meth c code 4 R_La V) (hX : va_X b Lx xs s s.heap) (hbV : b < s.heap.size ∧ ¬ V.2.2 ≤ b) (hk : 6 * k + 6 ≤ Lx) (hLx : Lx ≤ 3072) (hx : ∃ fs, h X = some (gi_O 0 fs)) (hc : cj_6 l V X M n (xs (6 * k + 1)) (xs (6 * k + 2)) h P) (kk : ∀ h', P h' → lwG p l e s m b below meth c V 837 [(3, .int (nI (6 * k))), (2, .ref M), (1, .ref X), (0, .ref b)] [] n h') : lwG p l e s m b below meth c V 314 [(3, .int (nI (6 * k))), (2, .ref M), (1, .ref X), (0, .ref b)] [] n h := by
  obtain ⟨fs, hx⟩ := hx
  obtain ⟨Mid, hH, hT⟩ := hc
  refine gi_aload_n (q := 315) (i := 1) C (dm_La_law 164 rfl) rfl rfl rfl ?_
  refine gi_aload_n (q := 316) (i := 0) C (dm_La_law 165 rfl) rfl rfl rfl ?_
  refine gi_iload_n (q := 317) (i := 3) C (dm_La_law 166 rfl) rfl rfl rfl ?_
  refine gi_iconst (q := 318) (v := 1) C (dm_La_law 167 rfl) rfl (by decide) ?_
  refine gi_iadd (q := 319) C (dm_La_law 168 rfl) rfl ?_
  refine gi_sld (q := 320) (j := 6 * k + 1) C hX hbV (dm_La_law 169 rfl) rfl (by rw [show (1 : Int32) = nI 1 from rfl, nI_add]) ⟨by omega, by omega⟩ ?_
  refine gi_aload_n (q := 321) (i := 0) C (dm_La_law 170 rfl) rfl rfl rfl ?_
  refine gi_iload_n (q := 322) (i := 3) C (dm_La_law 171 rfl) rfl rfl rfl ?_
  refine gi_iconst (q := 323) (v := 2) C (dm_La_law 172 rfl) rfl (by decide) ?_
  refine gi_iadd (q := 324) C (dm_La_law 173 rfl) rfl ?_
  refine gi_sld (q := 325) (j := 6 * k + 2) C hX hbV (dm_La_law 174 rfl) rfl (by rw [show (2 : Int32) = nI 2 from rfl, nI_add]) ⟨by omega, by omega⟩ ?_
  refine gi_callv 2 (q := 328) C (dm_La_law 175 rfl) rfl my_H_reached lk_La_41 im_H_reached rfl (hH) hx rfl rfl ⟨(Nat.le_of_ble_eq_true rfl), (Nat.le_of_ble_eq_true rfl)⟩ (Nat.le_of_ble_eq_true rfl) ⟨(Nat.le_of_ble_eq_true rfl), (Nat.le_of_ble_eq_true rfl)⟩ (fun r325 n325 h325 e325 => ?_)
  obtain ⟨rfl, v, rfl, hm⟩ := e325
  obtain ⟨⟨gs, hM⟩, hMM⟩ := hT _ _ hm
  refine gi_aload_n (q := 329) (i := 2) C (dm_La_law 176 rfl) rfl rfl rfl ?_
  refine gi_aload_n (q := 330) (i := 0) C (dm_La_law 177 rfl) rfl rfl rfl ?_
  refine gi_iload_n (q := 331) (i := 3) C (dm_La_law 178 rfl) rfl rfl rfl ?_
  refine gi_iconst (q := 332) (v := 1) C (dm_La_law 179 rfl) rfl (by decide) ?_
  refine gi_iadd (q := 333) C (dm_La_law 180 rfl) rfl ?_
  refine gi_sld (q := 334) (j := 6 * k + 1) C hX hbV (dm_La_law 181 rfl) rfl (by rw [show (1 : Int32) = nI 1 from rfl, nI_add]) ⟨by omega, by omega⟩ ?_
  refine gi_aload_n (q := 335) (i := 0) C (dm_La_law 182 rfl) rfl rfl rfl ?_
  refine gi_iload_n (q := 336) (i := 3) C (dm_La_law 183 rfl) rfl rfl rfl ?_
  refine gi_iconst (q := 337) (v := 2) C (dm_La_law 184 rfl) rfl (by decide) ?_
  refine gi_iadd (q := 338) C (dm_La_law 185 rfl) rfl ?_
  refine gi_sld (q := 339) (j := 6 * k + 2) C hX hbV (dm_La_law 186 rfl) rfl (by rw [show (2 : Int32) = nI 2 from rfl, nI_add]) ⟨by omega, by omega⟩ ?_
  refine gi_callv 2 (q := 342) C (dm_La_law 187 rfl) rfl my_Mo_reached lk_La_45 im_Mo_reached rfl (hMM) hM rfl rfl ⟨(Nat.le_of_ble_eq_true rfl), (Nat.le_of_ble_eq_true rfl)⟩ (Nat.le_of_ble_eq_true rfl) ⟨(Nat.le_of_ble_eq_true rfl), (Nat.le_of_ble_eq_true rfl)⟩ (fun r339 n339 h339 e339 => ?_)
  obtain ⟨rfl, rfl, hP⟩ := e339
  refine gi_icmp_eq (q := 345) (tgt := 837) C (dm_La_law 188 rfl) rfl (by decide) (fun c342 => ?_) (fun c342 => ?_)
  · exact kk _ hP
  · exact absurd rfl c342
/-- H_state of both, one behind the other: the same answer -/
def cj_7 (l : Launch) (V : gi_V) (X M n : Nat) (x y z u : Int32) (h : gi_H) (P : gi_H → Prop) : Prop := ∃ Mid : Int64 → gi_H → Prop, gi_T l V y_H_state b_H_state 6 (some .long) 4 90 0 0 [.ref X, .int x, .int y, .int z, .int u] n h (fun r n' h' => n' = n ∧ ∃ v, r = some (.long v) ∧ Mid v h') ∧ ∀ v h1, Mid v h1 → (∃ fs, h1 M = some (gi_O 12 fs)) ∧ gi_T l V y_Mo_state b_Mo_state 8 (some .long) 4 89 0 0 [.ref M, .int x, .int y, .int z, .int u] n h1 (fun r n' h' => n' = n ∧ r = some (.long v) ∧ P h')
set_option maxHeartbeats 4000000 in
set_option maxRecDepth 100000 in
theorem lw_s7 (C : gi_C p s m #[Value.ref b] meth c code 4 R_La V) (hX : va_X b Lx xs s s.heap) (hbV : b < s.heap.size ∧ ¬ V.2.2 ≤ b) (hk : 6 * k + 6 ≤ Lx) (hLx : Lx ≤ 3072) (hx : ∃ fs, h X = some (gi_O 0 fs)) (hc : cj_7 l V X M n (xs (6 * k + 1)) (xs (6 * k + 2)) (xs (6 * k + 3)) (xs (6 * k + 4)) h P) (kk : ∀ h', P h' → lwG p l e s m b below meth c V 837 [(3, .int (nI (6 * k))), (2, .ref M), (1, .ref X), (0, .ref b)] [] n h') : lwG p l e s m b below meth c V 347 [(3, .int (nI (6 * k))), (2, .ref M), (1, .ref X), (0, .ref b)] [] n h := by
  obtain ⟨fs, hx⟩ := hx
  obtain ⟨Mid, hH, hT⟩ := hc
  refine gi_aload_n (q := 348) (i := 1) C (dm_La_law 191 rfl) rfl rfl rfl ?_
  refine gi_aload_n (q := 349) (i := 0) C (dm_La_law 192 rfl) rfl rfl rfl ?_
  refine gi_iload_n (q := 350) (i := 3) C (dm_La_law 193 rfl) rfl rfl rfl ?_
  refine gi_iconst (q := 351) (v := 1) C (dm_La_law 194 rfl) rfl (by decide) ?_
  refine gi_iadd (q := 352) C (dm_La_law 195 rfl) rfl ?_
  refine gi_sld (q := 353) (j := 6 * k + 1) C hX hbV (dm_La_law 196 rfl) rfl (by rw [show (1 : Int32) = nI 1 from rfl, nI_add]) ⟨by omega, by omega⟩ ?_
  refine gi_aload_n (q := 354) (i := 0) C (dm_La_law 197 rfl) rfl rfl rfl ?_
  refine gi_iload_n (q := 355) (i := 3) C (dm_La_law 198 rfl) rfl rfl rfl ?_
  refine gi_iconst (q := 356) (v := 2) C (dm_La_law 199 rfl) rfl (by decide) ?_
  refine gi_iadd (q := 357) C (dm_La_law 200 rfl) rfl ?_
  refine gi_sld (q := 358) (j := 6 * k + 2) C hX hbV (dm_La_law 201 rfl) rfl (by rw [show (2 : Int32) = nI 2 from rfl, nI_add]) ⟨by omega, by omega⟩ ?_
  refine gi_aload_n (q := 359) (i := 0) C (dm_La_law 202 rfl) rfl rfl rfl ?_
  refine gi_iload_n (q := 360) (i := 3) C (dm_La_law 203 rfl) rfl rfl rfl ?_
  refine gi_iconst (q := 361) (v := 3) C (dm_La_law 204 rfl) rfl (by decide) ?_
  refine gi_iadd (q := 362) C (dm_La_law 205 rfl) rfl ?_
  refine gi_sld (q := 363) (j := 6 * k + 3) C hX hbV (dm_La_law 206 rfl) rfl (by rw [show (3 : Int32) = nI 3 from rfl, nI_add]) ⟨by omega, by omega⟩ ?_
  refine gi_aload_n (q := 364) (i := 0) C (dm_La_law 207 rfl) rfl rfl rfl ?_
  refine gi_iload_n (q := 365) (i := 3) C (dm_La_law 208 rfl) rfl rfl rfl ?_
  refine gi_iconst (q := 366) (v := 4) C (dm_La_law 209 rfl) rfl (by decide) ?_
  refine gi_iadd (q := 367) C (dm_La_law 210 rfl) rfl ?_
  refine gi_sld (q := 368) (j := 6 * k + 4) C hX hbV (dm_La_law 211 rfl) rfl (by rw [show (4 : Int32) = nI 4 from rfl, nI_add]) ⟨by omega, by omega⟩ ?_
  refine gi_callv 4 (q := 371) C (dm_La_law 212 rfl) rfl my_H_state lk_La_46 im_H_state rfl (hH) hx rfl rfl ⟨(Nat.le_of_ble_eq_true rfl), (Nat.le_of_ble_eq_true rfl)⟩ (Nat.le_of_ble_eq_true rfl) ⟨(Nat.le_of_ble_eq_true rfl), (Nat.le_of_ble_eq_true rfl)⟩ (fun r368 n368 h368 e368 => ?_)
  obtain ⟨rfl, v, rfl, hm⟩ := e368
  obtain ⟨⟨gs, hM⟩, hMM⟩ := hT _ _ hm
  refine gi_aload_n (q := 372) (i := 2) C (dm_La_law 213 rfl) rfl rfl rfl ?_
  refine gi_aload_n (q := 373) (i := 0) C (dm_La_law 214 rfl) rfl rfl rfl ?_
  refine gi_iload_n (q := 374) (i := 3) C (dm_La_law 215 rfl) rfl rfl rfl ?_
  refine gi_iconst (q := 375) (v := 1) C (dm_La_law 216 rfl) rfl (by decide) ?_
  refine gi_iadd (q := 376) C (dm_La_law 217 rfl) rfl ?_
  refine gi_sld (q := 377) (j := 6 * k + 1) C hX hbV (dm_La_law 218 rfl) rfl (by rw [show (1 : Int32) = nI 1 from rfl, nI_add]) ⟨by omega, by omega⟩ ?_
  refine gi_aload_n (q := 378) (i := 0) C (dm_La_law 219 rfl) rfl rfl rfl ?_
  refine gi_iload_n (q := 379) (i := 3) C (dm_La_law 220 rfl) rfl rfl rfl ?_
  refine gi_iconst (q := 380) (v := 2) C (dm_La_law 221 rfl) rfl (by decide) ?_
  refine gi_iadd (q := 381) C (dm_La_law 222 rfl) rfl ?_
  refine gi_sld (q := 382) (j := 6 * k + 2) C hX hbV (dm_La_law 223 rfl) rfl (by rw [show (2 : Int32) = nI 2 from rfl, nI_add]) ⟨by omega, by omega⟩ ?_
  refine gi_aload_n (q := 383) (i := 0) C (dm_La_law 224 rfl) rfl rfl rfl ?_
  refine gi_iload_n (q := 384) (i := 3) C (dm_La_law 225 rfl) rfl rfl rfl ?_
  refine gi_iconst (q := 385) (v := 3) C (dm_La_law 226 rfl) rfl (by decide) ?_
  refine gi_iadd (q := 386) C (dm_La_law 227 rfl) rfl ?_
  refine gi_sld (q := 387) (j := 6 * k + 3) C hX hbV (dm_La_law 228 rfl) rfl (by rw [show (3 : Int32) = nI 3 from rfl, nI_add]) ⟨by omega, by omega⟩ ?_
  refine gi_aload_n (q := 388) (i := 0) C (dm_La_law 229 rfl) rfl rfl rfl ?_
  refine gi_iload_n (q := 389) (i := 3) C (dm_La_law 230 rfl) rfl rfl rfl ?_
  refine gi_iconst (q := 390) (v := 4) C (dm_La_law 231 rfl) rfl (by decide) ?_
  refine gi_iadd (q := 391) C (dm_La_law 232 rfl) rfl ?_
  refine gi_sld (q := 392) (j := 6 * k + 4) C hX hbV (dm_La_law 233 rfl) rfl (by rw [show (4 : Int32) = nI 4 from rfl, nI_add]) ⟨by omega, by omega⟩ ?_
  refine gi_callv 4 (q := 395) C (dm_La_law 234 rfl) rfl my_Mo_state lk_La_50 im_Mo_state rfl (hMM) hM rfl rfl ⟨(Nat.le_of_ble_eq_true rfl), (Nat.le_of_ble_eq_true rfl)⟩ (Nat.le_of_ble_eq_true rfl) ⟨(Nat.le_of_ble_eq_true rfl), (Nat.le_of_ble_eq_true rfl)⟩ (fun r392 n392 h392 e392 => ?_)
  obtain ⟨rfl, rfl, hP⟩ := e392
  refine gi_lcmp (q := 396) C (dm_La_law 235 rfl) rfl ?_
  refine gi_if_eq (q := 399) (tgt := 837) C (dm_La_law 236 rfl) rfl (by decide) (fun c396 => ?_) (fun c396 => ?_)
  · exact kk _ hP
  · exact absurd (lw_cmp0 _) c396
/-- H_site of both, one behind the other: the same answer -/
def cj_8 (l : Launch) (V : gi_V) (X M n : Nat) (x y : Int32) (h : gi_H) (P : gi_H → Prop) : Prop := ∃ Mid : Int64 → gi_H → Prop, gi_T l V y_H_site b_H_site 4 (some .long) 2 42 0 0 [.ref X, .int x, .int y] n h (fun r n' h' => n' = n ∧ ∃ v, r = some (.long v) ∧ Mid v h') ∧ ∀ v h1, Mid v h1 → (∃ fs, h1 M = some (gi_O 12 fs)) ∧ gi_T l V y_Mo_site b_Mo_site 4 (some .long) 1 22 0 0 [.ref M, .int x, .int y] n h1 (fun r n' h' => n' = n ∧ r = some (.long v) ∧ P h')
set_option maxHeartbeats 4000000 in
set_option maxRecDepth 100000 in
theorem lw_s8 (C : gi_C p s m #[Value.ref b] meth c code 4 R_La V) (hX : va_X b Lx xs s s.heap) (hbV : b < s.heap.size ∧ ¬ V.2.2 ≤ b) (hk : 6 * k + 6 ≤ Lx) (hLx : Lx ≤ 3072) (hx : ∃ fs, h X = some (gi_O 0 fs)) (hc : cj_8 l V X M n (xs (6 * k + 1)) (xs (6 * k + 2)) h P) (kk : ∀ h', P h' → lwG p l e s m b below meth c V 837 [(3, .int (nI (6 * k))), (2, .ref M), (1, .ref X), (0, .ref b)] [] n h') : lwG p l e s m b below meth c V 401 [(3, .int (nI (6 * k))), (2, .ref M), (1, .ref X), (0, .ref b)] [] n h := by
  obtain ⟨fs, hx⟩ := hx
  obtain ⟨Mid, hH, hT⟩ := hc
  refine gi_aload_n (q := 402) (i := 1) C (dm_La_law 239 rfl) rfl rfl rfl ?_
  refine gi_aload_n (q := 403) (i := 0) C (dm_La_law 240 rfl) rfl rfl rfl ?_
  refine gi_iload_n (q := 404) (i := 3) C (dm_La_law 241 rfl) rfl rfl rfl ?_
  refine gi_iconst (q := 405) (v := 1) C (dm_La_law 242 rfl) rfl (by decide) ?_
  refine gi_iadd (q := 406) C (dm_La_law 243 rfl) rfl ?_
  refine gi_sld (q := 407) (j := 6 * k + 1) C hX hbV (dm_La_law 244 rfl) rfl (by rw [show (1 : Int32) = nI 1 from rfl, nI_add]) ⟨by omega, by omega⟩ ?_
  refine gi_aload_n (q := 408) (i := 0) C (dm_La_law 245 rfl) rfl rfl rfl ?_
  refine gi_iload_n (q := 409) (i := 3) C (dm_La_law 246 rfl) rfl rfl rfl ?_
  refine gi_iconst (q := 410) (v := 2) C (dm_La_law 247 rfl) rfl (by decide) ?_
  refine gi_iadd (q := 411) C (dm_La_law 248 rfl) rfl ?_
  refine gi_sld (q := 412) (j := 6 * k + 2) C hX hbV (dm_La_law 249 rfl) rfl (by rw [show (2 : Int32) = nI 2 from rfl, nI_add]) ⟨by omega, by omega⟩ ?_
  refine gi_callv 2 (q := 415) C (dm_La_law 250 rfl) rfl my_H_site lk_La_51 im_H_site rfl (hH) hx rfl rfl ⟨(Nat.le_of_ble_eq_true rfl), (Nat.le_of_ble_eq_true rfl)⟩ (Nat.le_of_ble_eq_true rfl) ⟨(Nat.le_of_ble_eq_true rfl), (Nat.le_of_ble_eq_true rfl)⟩ (fun r412 n412 h412 e412 => ?_)
  obtain ⟨rfl, v, rfl, hm⟩ := e412
  obtain ⟨⟨gs, hM⟩, hMM⟩ := hT _ _ hm
  refine gi_aload_n (q := 416) (i := 2) C (dm_La_law 251 rfl) rfl rfl rfl ?_
  refine gi_aload_n (q := 417) (i := 0) C (dm_La_law 252 rfl) rfl rfl rfl ?_
  refine gi_iload_n (q := 418) (i := 3) C (dm_La_law 253 rfl) rfl rfl rfl ?_
  refine gi_iconst (q := 419) (v := 1) C (dm_La_law 254 rfl) rfl (by decide) ?_
  refine gi_iadd (q := 420) C (dm_La_law 255 rfl) rfl ?_
  refine gi_sld (q := 421) (j := 6 * k + 1) C hX hbV (dm_La_law 256 rfl) rfl (by rw [show (1 : Int32) = nI 1 from rfl, nI_add]) ⟨by omega, by omega⟩ ?_
  refine gi_aload_n (q := 422) (i := 0) C (dm_La_law 257 rfl) rfl rfl rfl ?_
  refine gi_iload_n (q := 423) (i := 3) C (dm_La_law 258 rfl) rfl rfl rfl ?_
  refine gi_iconst (q := 424) (v := 2) C (dm_La_law 259 rfl) rfl (by decide) ?_
  refine gi_iadd (q := 425) C (dm_La_law 260 rfl) rfl ?_
  refine gi_sld (q := 426) (j := 6 * k + 2) C hX hbV (dm_La_law 261 rfl) rfl (by rw [show (2 : Int32) = nI 2 from rfl, nI_add]) ⟨by omega, by omega⟩ ?_
  refine gi_callv 2 (q := 429) C (dm_La_law 262 rfl) rfl my_Mo_site lk_La_55 im_Mo_site rfl (hMM) hM rfl rfl ⟨(Nat.le_of_ble_eq_true rfl), (Nat.le_of_ble_eq_true rfl)⟩ (Nat.le_of_ble_eq_true rfl) ⟨(Nat.le_of_ble_eq_true rfl), (Nat.le_of_ble_eq_true rfl)⟩ (fun r426 n426 h426 e426 => ?_)
  obtain ⟨rfl, rfl, hP⟩ := e426
  refine gi_lcmp (q := 430) C (dm_La_law 263 rfl) rfl ?_
  refine gi_if_eq (q := 433) (tgt := 837) C (dm_La_law 264 rfl) rfl (by decide) (fun c430 => ?_) (fun c430 => ?_)
  · exact kk _ hP
  · exact absurd (lw_cmp0 _) c430
/-- H_field of both, one behind the other: the same answer -/
def cj_9 (l : Launch) (V : gi_V) (X M n : Nat) (x y : Int32) (h : gi_H) (P : gi_H → Prop) : Prop := ∃ Mid : Int64 → gi_H → Prop, gi_T l V y_H_field b_H_field 3 (some .long) 2 42 0 0 [.ref X, .int x, .int y] n h (fun r n' h' => n' = n ∧ ∃ v, r = some (.long v) ∧ Mid v h') ∧ ∀ v h1, Mid v h1 → (∃ fs, h1 M = some (gi_O 12 fs)) ∧ gi_T l V y_Mo_field b_Mo_field 3 (some .long) 1 22 0 0 [.ref M, .int x, .int y] n h1 (fun r n' h' => n' = n ∧ r = some (.long v) ∧ P h')
set_option maxHeartbeats 4000000 in
set_option maxRecDepth 100000 in
theorem lw_s9 (C : gi_C p s m #[Value.ref b] meth c code 4 R_La V) (hX : va_X b Lx xs s s.heap) (hbV : b < s.heap.size ∧ ¬ V.2.2 ≤ b) (hk : 6 * k + 6 ≤ Lx) (hLx : Lx ≤ 3072) (hx : ∃ fs, h X = some (gi_O 0 fs)) (hc : cj_9 l V X M n (xs (6 * k + 1)) (xs (6 * k + 2)) h P) (kk : ∀ h', P h' → lwG p l e s m b below meth c V 837 [(3, .int (nI (6 * k))), (2, .ref M), (1, .ref X), (0, .ref b)] [] n h') : lwG p l e s m b below meth c V 435 [(3, .int (nI (6 * k))), (2, .ref M), (1, .ref X), (0, .ref b)] [] n h := by
  obtain ⟨fs, hx⟩ := hx
  obtain ⟨Mid, hH, hT⟩ := hc
  refine gi_aload_n (q := 436) (i := 1) C (dm_La_law 267 rfl) rfl rfl rfl ?_
  refine gi_aload_n (q := 437) (i := 0) C (dm_La_law 268 rfl) rfl rfl rfl ?_
  refine gi_iload_n (q := 438) (i := 3) C (dm_La_law 269 rfl) rfl rfl rfl ?_
  refine gi_iconst (q := 439) (v := 1) C (dm_La_law 270 rfl) rfl (by decide) ?_
  refine gi_iadd (q := 440) C (dm_La_law 271 rfl) rfl ?_
  refine gi_sld (q := 441) (j := 6 * k + 1) C hX hbV (dm_La_law 272 rfl) rfl (by rw [show (1 : Int32) = nI 1 from rfl, nI_add]) ⟨by omega, by omega⟩ ?_
  refine gi_aload_n (q := 442) (i := 0) C (dm_La_law 273 rfl) rfl rfl rfl ?_
  refine gi_iload_n (q := 443) (i := 3) C (dm_La_law 274 rfl) rfl rfl rfl ?_
  refine gi_iconst (q := 444) (v := 2) C (dm_La_law 275 rfl) rfl (by decide) ?_
  refine gi_iadd (q := 445) C (dm_La_law 276 rfl) rfl ?_
  refine gi_sld (q := 446) (j := 6 * k + 2) C hX hbV (dm_La_law 277 rfl) rfl (by rw [show (2 : Int32) = nI 2 from rfl, nI_add]) ⟨by omega, by omega⟩ ?_
  refine gi_callv 2 (q := 449) C (dm_La_law 278 rfl) rfl my_H_field lk_La_56 im_H_field rfl (hH) hx rfl rfl ⟨(Nat.le_of_ble_eq_true rfl), (Nat.le_of_ble_eq_true rfl)⟩ (Nat.le_of_ble_eq_true rfl) ⟨(Nat.le_of_ble_eq_true rfl), (Nat.le_of_ble_eq_true rfl)⟩ (fun r446 n446 h446 e446 => ?_)
  obtain ⟨rfl, v, rfl, hm⟩ := e446
  obtain ⟨⟨gs, hM⟩, hMM⟩ := hT _ _ hm
  refine gi_aload_n (q := 450) (i := 2) C (dm_La_law 279 rfl) rfl rfl rfl ?_
  refine gi_aload_n (q := 451) (i := 0) C (dm_La_law 280 rfl) rfl rfl rfl ?_
  refine gi_iload_n (q := 452) (i := 3) C (dm_La_law 281 rfl) rfl rfl rfl ?_
  refine gi_iconst (q := 453) (v := 1) C (dm_La_law 282 rfl) rfl (by decide) ?_
  refine gi_iadd (q := 454) C (dm_La_law 283 rfl) rfl ?_
  refine gi_sld (q := 455) (j := 6 * k + 1) C hX hbV (dm_La_law 284 rfl) rfl (by rw [show (1 : Int32) = nI 1 from rfl, nI_add]) ⟨by omega, by omega⟩ ?_
  refine gi_aload_n (q := 456) (i := 0) C (dm_La_law 285 rfl) rfl rfl rfl ?_
  refine gi_iload_n (q := 457) (i := 3) C (dm_La_law 286 rfl) rfl rfl rfl ?_
  refine gi_iconst (q := 458) (v := 2) C (dm_La_law 287 rfl) rfl (by decide) ?_
  refine gi_iadd (q := 459) C (dm_La_law 288 rfl) rfl ?_
  refine gi_sld (q := 460) (j := 6 * k + 2) C hX hbV (dm_La_law 289 rfl) rfl (by rw [show (2 : Int32) = nI 2 from rfl, nI_add]) ⟨by omega, by omega⟩ ?_
  refine gi_callv 2 (q := 463) C (dm_La_law 290 rfl) rfl my_Mo_field lk_La_59 im_Mo_field rfl (hMM) hM rfl rfl ⟨(Nat.le_of_ble_eq_true rfl), (Nat.le_of_ble_eq_true rfl)⟩ (Nat.le_of_ble_eq_true rfl) ⟨(Nat.le_of_ble_eq_true rfl), (Nat.le_of_ble_eq_true rfl)⟩ (fun r460 n460 h460 e460 => ?_)
  obtain ⟨rfl, rfl, hP⟩ := e460
  refine gi_lcmp (q := 464) C (dm_La_law 291 rfl) rfl ?_
  refine gi_if_eq (q := 467) (tgt := 837) C (dm_La_law 292 rfl) rfl (by decide) (fun c464 => ?_) (fun c464 => ?_)
  · exact kk _ hP
  · exact absurd (lw_cmp0 _) c464
/-- H_result of both, one behind the other: the same answer -/
def cj_10 (l : Launch) (V : gi_V) (X M n : Nat) (x y : Int32) (h : gi_H) (P : gi_H → Prop) : Prop := ∃ Mid : Int64 → gi_H → Prop, gi_T l V y_H_result b_H_result 4 (some .long) 2 42 0 0 [.ref X, .int x, .int y] n h (fun r n' h' => n' = n ∧ ∃ v, r = some (.long v) ∧ Mid v h') ∧ ∀ v h1, Mid v h1 → (∃ fs, h1 M = some (gi_O 12 fs)) ∧ gi_T l V y_Mo_result b_Mo_result 4 (some .long) 1 22 0 0 [.ref M, .int x, .int y] n h1 (fun r n' h' => n' = n ∧ r = some (.long v) ∧ P h')
set_option maxHeartbeats 4000000 in
set_option maxRecDepth 100000 in
theorem lw_s10 (C : gi_C p s m #[Value.ref b] meth c code 4 R_La V) (hX : va_X b Lx xs s s.heap) (hbV : b < s.heap.size ∧ ¬ V.2.2 ≤ b) (hk : 6 * k + 6 ≤ Lx) (hLx : Lx ≤ 3072) (hx : ∃ fs, h X = some (gi_O 0 fs)) (hc : cj_10 l V X M n (xs (6 * k + 1)) (xs (6 * k + 2)) h P) (kk : ∀ h', P h' → lwG p l e s m b below meth c V 837 [(3, .int (nI (6 * k))), (2, .ref M), (1, .ref X), (0, .ref b)] [] n h') : lwG p l e s m b below meth c V 469 [(3, .int (nI (6 * k))), (2, .ref M), (1, .ref X), (0, .ref b)] [] n h := by
  obtain ⟨fs, hx⟩ := hx
  obtain ⟨Mid, hH, hT⟩ := hc
  refine gi_aload_n (q := 470) (i := 1) C (dm_La_law 295 rfl) rfl rfl rfl ?_
  refine gi_aload_n (q := 471) (i := 0) C (dm_La_law 296 rfl) rfl rfl rfl ?_
  refine gi_iload_n (q := 472) (i := 3) C (dm_La_law 297 rfl) rfl rfl rfl ?_
  refine gi_iconst (q := 473) (v := 1) C (dm_La_law 298 rfl) rfl (by decide) ?_
  refine gi_iadd (q := 474) C (dm_La_law 299 rfl) rfl ?_
  refine gi_sld (q := 475) (j := 6 * k + 1) C hX hbV (dm_La_law 300 rfl) rfl (by rw [show (1 : Int32) = nI 1 from rfl, nI_add]) ⟨by omega, by omega⟩ ?_
  refine gi_aload_n (q := 476) (i := 0) C (dm_La_law 301 rfl) rfl rfl rfl ?_
  refine gi_iload_n (q := 477) (i := 3) C (dm_La_law 302 rfl) rfl rfl rfl ?_
  refine gi_iconst (q := 478) (v := 2) C (dm_La_law 303 rfl) rfl (by decide) ?_
  refine gi_iadd (q := 479) C (dm_La_law 304 rfl) rfl ?_
  refine gi_sld (q := 480) (j := 6 * k + 2) C hX hbV (dm_La_law 305 rfl) rfl (by rw [show (2 : Int32) = nI 2 from rfl, nI_add]) ⟨by omega, by omega⟩ ?_
  refine gi_callv 2 (q := 483) C (dm_La_law 306 rfl) rfl my_H_result lk_La_60 im_H_result rfl (hH) hx rfl rfl ⟨(Nat.le_of_ble_eq_true rfl), (Nat.le_of_ble_eq_true rfl)⟩ (Nat.le_of_ble_eq_true rfl) ⟨(Nat.le_of_ble_eq_true rfl), (Nat.le_of_ble_eq_true rfl)⟩ (fun r480 n480 h480 e480 => ?_)
  obtain ⟨rfl, v, rfl, hm⟩ := e480
  obtain ⟨⟨gs, hM⟩, hMM⟩ := hT _ _ hm
  refine gi_aload_n (q := 484) (i := 2) C (dm_La_law 307 rfl) rfl rfl rfl ?_
  refine gi_aload_n (q := 485) (i := 0) C (dm_La_law 308 rfl) rfl rfl rfl ?_
  refine gi_iload_n (q := 486) (i := 3) C (dm_La_law 309 rfl) rfl rfl rfl ?_
  refine gi_iconst (q := 487) (v := 1) C (dm_La_law 310 rfl) rfl (by decide) ?_
  refine gi_iadd (q := 488) C (dm_La_law 311 rfl) rfl ?_
  refine gi_sld (q := 489) (j := 6 * k + 1) C hX hbV (dm_La_law 312 rfl) rfl (by rw [show (1 : Int32) = nI 1 from rfl, nI_add]) ⟨by omega, by omega⟩ ?_
  refine gi_aload_n (q := 490) (i := 0) C (dm_La_law 313 rfl) rfl rfl rfl ?_
  refine gi_iload_n (q := 491) (i := 3) C (dm_La_law 314 rfl) rfl rfl rfl ?_
  refine gi_iconst (q := 492) (v := 2) C (dm_La_law 315 rfl) rfl (by decide) ?_
  refine gi_iadd (q := 493) C (dm_La_law 316 rfl) rfl ?_
  refine gi_sld (q := 494) (j := 6 * k + 2) C hX hbV (dm_La_law 317 rfl) rfl (by rw [show (2 : Int32) = nI 2 from rfl, nI_add]) ⟨by omega, by omega⟩ ?_
  refine gi_callv 2 (q := 497) C (dm_La_law 318 rfl) rfl my_Mo_result lk_La_63 im_Mo_result rfl (hMM) hM rfl rfl ⟨(Nat.le_of_ble_eq_true rfl), (Nat.le_of_ble_eq_true rfl)⟩ (Nat.le_of_ble_eq_true rfl) ⟨(Nat.le_of_ble_eq_true rfl), (Nat.le_of_ble_eq_true rfl)⟩ (fun r494 n494 h494 e494 => ?_)
  obtain ⟨rfl, rfl, hP⟩ := e494
  refine gi_lcmp (q := 498) C (dm_La_law 319 rfl) rfl ?_
  refine gi_if_eq (q := 501) (tgt := 837) C (dm_La_law 320 rfl) rfl (by decide) (fun c498 => ?_) (fun c498 => ?_)
  · exact kk _ hP
  · exact absurd (lw_cmp0 _) c498
/-- H_verdict of both, one behind the other: the same answer -/
def cj_11 (l : Launch) (V : gi_V) (X M n : Nat) (x y z : Int32) (h : gi_H) (P : gi_H → Prop) : Prop := ∃ Mid : Int32 → gi_H → Prop, gi_T l V y_H_verdict b_H_verdict 4 (some .int) 4 97 0 0 [.ref X, .int x, .int y, .int z] n h (fun r n' h' => n' = n ∧ ∃ v, r = some (.int v) ∧ Mid v h') ∧ ∀ v h1, Mid v h1 → (∃ fs, h1 M = some (gi_O 12 fs)) ∧ gi_T l V y_Mo_verdict b_Mo_verdict 4 (some .int) 2 58 0 0 [.ref M, .int x, .int y, .int z] n h1 (fun r n' h' => n' = n ∧ r = some (.int v) ∧ P h')
set_option maxHeartbeats 4000000 in
set_option maxRecDepth 100000 in
theorem lw_s11 (C : gi_C p s m #[Value.ref b] meth c code 4 R_La V) (hX : va_X b Lx xs s s.heap) (hbV : b < s.heap.size ∧ ¬ V.2.2 ≤ b) (hk : 6 * k + 6 ≤ Lx) (hLx : Lx ≤ 3072) (hx : ∃ fs, h X = some (gi_O 0 fs)) (hc : cj_11 l V X M n (xs (6 * k + 1)) (xs (6 * k + 2)) (xs (6 * k + 3)) h P) (kk : ∀ h', P h' → lwG p l e s m b below meth c V 837 [(3, .int (nI (6 * k))), (2, .ref M), (1, .ref X), (0, .ref b)] [] n h') : lwG p l e s m b below meth c V 503 [(3, .int (nI (6 * k))), (2, .ref M), (1, .ref X), (0, .ref b)] [] n h := by
  obtain ⟨fs, hx⟩ := hx
  obtain ⟨Mid, hH, hT⟩ := hc
  refine gi_aload_n (q := 504) (i := 1) C (dm_La_law 323 rfl) rfl rfl rfl ?_
  refine gi_aload_n (q := 505) (i := 0) C (dm_La_law 324 rfl) rfl rfl rfl ?_
  refine gi_iload_n (q := 506) (i := 3) C (dm_La_law 325 rfl) rfl rfl rfl ?_
  refine gi_iconst (q := 507) (v := 1) C (dm_La_law 326 rfl) rfl (by decide) ?_
  refine gi_iadd (q := 508) C (dm_La_law 327 rfl) rfl ?_
  refine gi_sld (q := 509) (j := 6 * k + 1) C hX hbV (dm_La_law 328 rfl) rfl (by rw [show (1 : Int32) = nI 1 from rfl, nI_add]) ⟨by omega, by omega⟩ ?_
  refine gi_aload_n (q := 510) (i := 0) C (dm_La_law 329 rfl) rfl rfl rfl ?_
  refine gi_iload_n (q := 511) (i := 3) C (dm_La_law 330 rfl) rfl rfl rfl ?_
  refine gi_iconst (q := 512) (v := 2) C (dm_La_law 331 rfl) rfl (by decide) ?_
  refine gi_iadd (q := 513) C (dm_La_law 332 rfl) rfl ?_
  refine gi_sld (q := 514) (j := 6 * k + 2) C hX hbV (dm_La_law 333 rfl) rfl (by rw [show (2 : Int32) = nI 2 from rfl, nI_add]) ⟨by omega, by omega⟩ ?_
  refine gi_aload_n (q := 515) (i := 0) C (dm_La_law 334 rfl) rfl rfl rfl ?_
  refine gi_iload_n (q := 516) (i := 3) C (dm_La_law 335 rfl) rfl rfl rfl ?_
  refine gi_iconst (q := 517) (v := 3) C (dm_La_law 336 rfl) rfl (by decide) ?_
  refine gi_iadd (q := 518) C (dm_La_law 337 rfl) rfl ?_
  refine gi_sld (q := 519) (j := 6 * k + 3) C hX hbV (dm_La_law 338 rfl) rfl (by rw [show (3 : Int32) = nI 3 from rfl, nI_add]) ⟨by omega, by omega⟩ ?_
  refine gi_callv 3 (q := 522) C (dm_La_law 339 rfl) rfl my_H_verdict lk_La_64 im_H_verdict rfl (hH) hx rfl rfl ⟨(Nat.le_of_ble_eq_true rfl), (Nat.le_of_ble_eq_true rfl)⟩ (Nat.le_of_ble_eq_true rfl) ⟨(Nat.le_of_ble_eq_true rfl), (Nat.le_of_ble_eq_true rfl)⟩ (fun r519 n519 h519 e519 => ?_)
  obtain ⟨rfl, v, rfl, hm⟩ := e519
  obtain ⟨⟨gs, hM⟩, hMM⟩ := hT _ _ hm
  refine gi_aload_n (q := 523) (i := 2) C (dm_La_law 340 rfl) rfl rfl rfl ?_
  refine gi_aload_n (q := 524) (i := 0) C (dm_La_law 341 rfl) rfl rfl rfl ?_
  refine gi_iload_n (q := 525) (i := 3) C (dm_La_law 342 rfl) rfl rfl rfl ?_
  refine gi_iconst (q := 526) (v := 1) C (dm_La_law 343 rfl) rfl (by decide) ?_
  refine gi_iadd (q := 527) C (dm_La_law 344 rfl) rfl ?_
  refine gi_sld (q := 528) (j := 6 * k + 1) C hX hbV (dm_La_law 345 rfl) rfl (by rw [show (1 : Int32) = nI 1 from rfl, nI_add]) ⟨by omega, by omega⟩ ?_
  refine gi_aload_n (q := 529) (i := 0) C (dm_La_law 346 rfl) rfl rfl rfl ?_
  refine gi_iload_n (q := 530) (i := 3) C (dm_La_law 347 rfl) rfl rfl rfl ?_
  refine gi_iconst (q := 531) (v := 2) C (dm_La_law 348 rfl) rfl (by decide) ?_
  refine gi_iadd (q := 532) C (dm_La_law 349 rfl) rfl ?_
  refine gi_sld (q := 533) (j := 6 * k + 2) C hX hbV (dm_La_law 350 rfl) rfl (by rw [show (2 : Int32) = nI 2 from rfl, nI_add]) ⟨by omega, by omega⟩ ?_
  refine gi_aload_n (q := 534) (i := 0) C (dm_La_law 351 rfl) rfl rfl rfl ?_
  refine gi_iload_n (q := 535) (i := 3) C (dm_La_law 352 rfl) rfl rfl rfl ?_
  refine gi_iconst (q := 536) (v := 3) C (dm_La_law 353 rfl) rfl (by decide) ?_
  refine gi_iadd (q := 537) C (dm_La_law 354 rfl) rfl ?_
  refine gi_sld (q := 538) (j := 6 * k + 3) C hX hbV (dm_La_law 355 rfl) rfl (by rw [show (3 : Int32) = nI 3 from rfl, nI_add]) ⟨by omega, by omega⟩ ?_
  refine gi_callv 3 (q := 541) C (dm_La_law 356 rfl) rfl my_Mo_verdict lk_La_67 im_Mo_verdict rfl (hMM) hM rfl rfl ⟨(Nat.le_of_ble_eq_true rfl), (Nat.le_of_ble_eq_true rfl)⟩ (Nat.le_of_ble_eq_true rfl) ⟨(Nat.le_of_ble_eq_true rfl), (Nat.le_of_ble_eq_true rfl)⟩ (fun r538 n538 h538 e538 => ?_)
  obtain ⟨rfl, rfl, hP⟩ := e538
  refine gi_icmp_eq (q := 544) (tgt := 837) C (dm_La_law 357 rfl) rfl (by decide) (fun c541 => ?_) (fun c541 => ?_)
  · exact kk _ hP
  · exact absurd rfl c541
/-- H_verdicts of both, one behind the other: the same answer -/
def cj_12 (l : Launch) (V : gi_V) (X M n : Nat) (x : Int32) (h : gi_H) (P : gi_H → Prop) : Prop := ∃ Mid : Int32 → gi_H → Prop, gi_T l V y_H_verdicts b_H_verdicts 5 (some .int) 5 123 0 0 [.ref X, .int x] n h (fun r n' h' => n' = n ∧ ∃ v, r = some (.int v) ∧ Mid v h') ∧ ∀ v h1, Mid v h1 → (∃ fs, h1 M = some (gi_O 12 fs)) ∧ gi_T l V y_Mo_verdicts b_Mo_verdicts 6 (some .int) 2 58 0 0 [.ref M, .int x] n h1 (fun r n' h' => n' = n ∧ r = some (.int v) ∧ P h')
set_option maxHeartbeats 4000000 in
set_option maxRecDepth 100000 in
theorem lw_s12 (C : gi_C p s m #[Value.ref b] meth c code 4 R_La V) (hX : va_X b Lx xs s s.heap) (hbV : b < s.heap.size ∧ ¬ V.2.2 ≤ b) (hk : 6 * k + 6 ≤ Lx) (hLx : Lx ≤ 3072) (hx : ∃ fs, h X = some (gi_O 0 fs)) (hc : cj_12 l V X M n (xs (6 * k + 1)) h P) (kk : ∀ h', P h' → lwG p l e s m b below meth c V 837 [(3, .int (nI (6 * k))), (2, .ref M), (1, .ref X), (0, .ref b)] [] n h') : lwG p l e s m b below meth c V 546 [(3, .int (nI (6 * k))), (2, .ref M), (1, .ref X), (0, .ref b)] [] n h := by
  obtain ⟨fs, hx⟩ := hx
  obtain ⟨Mid, hH, hT⟩ := hc
  refine gi_aload_n (q := 547) (i := 1) C (dm_La_law 360 rfl) rfl rfl rfl ?_
  refine gi_aload_n (q := 548) (i := 0) C (dm_La_law 361 rfl) rfl rfl rfl ?_
  refine gi_iload_n (q := 549) (i := 3) C (dm_La_law 362 rfl) rfl rfl rfl ?_
  refine gi_iconst (q := 550) (v := 1) C (dm_La_law 363 rfl) rfl (by decide) ?_
  refine gi_iadd (q := 551) C (dm_La_law 364 rfl) rfl ?_
  refine gi_sld (q := 552) (j := 6 * k + 1) C hX hbV (dm_La_law 365 rfl) rfl (by rw [show (1 : Int32) = nI 1 from rfl, nI_add]) ⟨by omega, by omega⟩ ?_
  refine gi_callv 1 (q := 555) C (dm_La_law 366 rfl) rfl my_H_verdicts lk_La_68 im_H_verdicts rfl (hH) hx rfl rfl ⟨(Nat.le_of_ble_eq_true rfl), (Nat.le_of_ble_eq_true rfl)⟩ (Nat.le_of_ble_eq_true rfl) ⟨(Nat.le_of_ble_eq_true rfl), (Nat.le_of_ble_eq_true rfl)⟩ (fun r552 n552 h552 e552 => ?_)
  obtain ⟨rfl, v, rfl, hm⟩ := e552
  obtain ⟨⟨gs, hM⟩, hMM⟩ := hT _ _ hm
  refine gi_aload_n (q := 556) (i := 2) C (dm_La_law 367 rfl) rfl rfl rfl ?_
  refine gi_aload_n (q := 557) (i := 0) C (dm_La_law 368 rfl) rfl rfl rfl ?_
  refine gi_iload_n (q := 558) (i := 3) C (dm_La_law 369 rfl) rfl rfl rfl ?_
  refine gi_iconst (q := 559) (v := 1) C (dm_La_law 370 rfl) rfl (by decide) ?_
  refine gi_iadd (q := 560) C (dm_La_law 371 rfl) rfl ?_
  refine gi_sld (q := 561) (j := 6 * k + 1) C hX hbV (dm_La_law 372 rfl) rfl (by rw [show (1 : Int32) = nI 1 from rfl, nI_add]) ⟨by omega, by omega⟩ ?_
  refine gi_callv 1 (q := 564) C (dm_La_law 373 rfl) rfl my_Mo_verdicts lk_La_71 im_Mo_verdicts rfl (hMM) hM rfl rfl ⟨(Nat.le_of_ble_eq_true rfl), (Nat.le_of_ble_eq_true rfl)⟩ (Nat.le_of_ble_eq_true rfl) ⟨(Nat.le_of_ble_eq_true rfl), (Nat.le_of_ble_eq_true rfl)⟩ (fun r561 n561 h561 e561 => ?_)
  obtain ⟨rfl, rfl, hP⟩ := e561
  refine gi_icmp_eq (q := 567) (tgt := 837) C (dm_La_law 374 rfl) rfl (by decide) (fun c564 => ?_) (fun c564 => ?_)
  · exact kk _ hP
  · exact absurd rfl c564
/-- H_plant of both, one behind the other: the same answer -/
def cj_13 (l : Launch) (V : gi_V) (X M n : Nat) (x y z u t : Int32) (h : gi_H) (P : gi_H → Prop) : Prop := ∃ Mid : Int32 → gi_H → Prop, gi_T l V y_H_plant b_H_plant 7 (some .boolean) 4 90 0 0 [.ref X, .int x, .int y, .int z, .int u, .int t] n h (fun r n' h' => n' = n ∧ ∃ v, r = some (.int v) ∧ Mid v h') ∧ ∀ v h1, Mid v h1 → (∃ fs, h1 M = some (gi_O 12 fs)) ∧ gi_T l V y_Mo_plant b_Mo_plant 8 (some .boolean) 4 89 0 0 [.ref M, .int x, .int y, .int z, .int u, .int t] n h1 (fun r n' h' => n' = n ∧ r = some (.int v) ∧ P h')
set_option maxHeartbeats 4000000 in
set_option maxRecDepth 100000 in
theorem lw_s13 (C : gi_C p s m #[Value.ref b] meth c code 4 R_La V) (hX : va_X b Lx xs s s.heap) (hbV : b < s.heap.size ∧ ¬ V.2.2 ≤ b) (hk : 6 * k + 6 ≤ Lx) (hLx : Lx ≤ 3072) (hx : ∃ fs, h X = some (gi_O 0 fs)) (hc : cj_13 l V X M n (xs (6 * k + 1)) (xs (6 * k + 2)) (xs (6 * k + 3)) (xs (6 * k + 4)) (xs (6 * k + 5)) h P) (kk : ∀ h', P h' → lwG p l e s m b below meth c V 837 [(3, .int (nI (6 * k))), (2, .ref M), (1, .ref X), (0, .ref b)] [] n h') : lwG p l e s m b below meth c V 569 [(3, .int (nI (6 * k))), (2, .ref M), (1, .ref X), (0, .ref b)] [] n h := by
  obtain ⟨fs, hx⟩ := hx
  obtain ⟨Mid, hH, hT⟩ := hc
  refine gi_aload_n (q := 570) (i := 1) C (dm_La_law 377 rfl) rfl rfl rfl ?_
  refine gi_aload_n (q := 571) (i := 0) C (dm_La_law 378 rfl) rfl rfl rfl ?_
  refine gi_iload_n (q := 572) (i := 3) C (dm_La_law 379 rfl) rfl rfl rfl ?_
  refine gi_iconst (q := 573) (v := 1) C (dm_La_law 380 rfl) rfl (by decide) ?_
  refine gi_iadd (q := 574) C (dm_La_law 381 rfl) rfl ?_
  refine gi_sld (q := 575) (j := 6 * k + 1) C hX hbV (dm_La_law 382 rfl) rfl (by rw [show (1 : Int32) = nI 1 from rfl, nI_add]) ⟨by omega, by omega⟩ ?_
  refine gi_aload_n (q := 576) (i := 0) C (dm_La_law 383 rfl) rfl rfl rfl ?_
  refine gi_iload_n (q := 577) (i := 3) C (dm_La_law 384 rfl) rfl rfl rfl ?_
  refine gi_iconst (q := 578) (v := 2) C (dm_La_law 385 rfl) rfl (by decide) ?_
  refine gi_iadd (q := 579) C (dm_La_law 386 rfl) rfl ?_
  refine gi_sld (q := 580) (j := 6 * k + 2) C hX hbV (dm_La_law 387 rfl) rfl (by rw [show (2 : Int32) = nI 2 from rfl, nI_add]) ⟨by omega, by omega⟩ ?_
  refine gi_aload_n (q := 581) (i := 0) C (dm_La_law 388 rfl) rfl rfl rfl ?_
  refine gi_iload_n (q := 582) (i := 3) C (dm_La_law 389 rfl) rfl rfl rfl ?_
  refine gi_iconst (q := 583) (v := 3) C (dm_La_law 390 rfl) rfl (by decide) ?_
  refine gi_iadd (q := 584) C (dm_La_law 391 rfl) rfl ?_
  refine gi_sld (q := 585) (j := 6 * k + 3) C hX hbV (dm_La_law 392 rfl) rfl (by rw [show (3 : Int32) = nI 3 from rfl, nI_add]) ⟨by omega, by omega⟩ ?_
  refine gi_aload_n (q := 586) (i := 0) C (dm_La_law 393 rfl) rfl rfl rfl ?_
  refine gi_iload_n (q := 587) (i := 3) C (dm_La_law 394 rfl) rfl rfl rfl ?_
  refine gi_iconst (q := 588) (v := 4) C (dm_La_law 395 rfl) rfl (by decide) ?_
  refine gi_iadd (q := 589) C (dm_La_law 396 rfl) rfl ?_
  refine gi_sld (q := 590) (j := 6 * k + 4) C hX hbV (dm_La_law 397 rfl) rfl (by rw [show (4 : Int32) = nI 4 from rfl, nI_add]) ⟨by omega, by omega⟩ ?_
  refine gi_aload_n (q := 591) (i := 0) C (dm_La_law 398 rfl) rfl rfl rfl ?_
  refine gi_iload_n (q := 592) (i := 3) C (dm_La_law 399 rfl) rfl rfl rfl ?_
  refine gi_iconst (q := 593) (v := 5) C (dm_La_law 400 rfl) rfl (by decide) ?_
  refine gi_iadd (q := 594) C (dm_La_law 401 rfl) rfl ?_
  refine gi_sld (q := 595) (j := 6 * k + 5) C hX hbV (dm_La_law 402 rfl) rfl (by rw [show (5 : Int32) = nI 5 from rfl, nI_add]) ⟨by omega, by omega⟩ ?_
  refine gi_callv 5 (q := 598) C (dm_La_law 403 rfl) rfl my_H_plant lk_La_72 im_H_plant rfl (hH) hx rfl rfl ⟨(Nat.le_of_ble_eq_true rfl), (Nat.le_of_ble_eq_true rfl)⟩ (Nat.le_of_ble_eq_true rfl) ⟨(Nat.le_of_ble_eq_true rfl), (Nat.le_of_ble_eq_true rfl)⟩ (fun r595 n595 h595 e595 => ?_)
  obtain ⟨rfl, v, rfl, hm⟩ := e595
  obtain ⟨⟨gs, hM⟩, hMM⟩ := hT _ _ hm
  refine gi_aload_n (q := 599) (i := 2) C (dm_La_law 404 rfl) rfl rfl rfl ?_
  refine gi_aload_n (q := 600) (i := 0) C (dm_La_law 405 rfl) rfl rfl rfl ?_
  refine gi_iload_n (q := 601) (i := 3) C (dm_La_law 406 rfl) rfl rfl rfl ?_
  refine gi_iconst (q := 602) (v := 1) C (dm_La_law 407 rfl) rfl (by decide) ?_
  refine gi_iadd (q := 603) C (dm_La_law 408 rfl) rfl ?_
  refine gi_sld (q := 604) (j := 6 * k + 1) C hX hbV (dm_La_law 409 rfl) rfl (by rw [show (1 : Int32) = nI 1 from rfl, nI_add]) ⟨by omega, by omega⟩ ?_
  refine gi_aload_n (q := 605) (i := 0) C (dm_La_law 410 rfl) rfl rfl rfl ?_
  refine gi_iload_n (q := 606) (i := 3) C (dm_La_law 411 rfl) rfl rfl rfl ?_
  refine gi_iconst (q := 607) (v := 2) C (dm_La_law 412 rfl) rfl (by decide) ?_
  refine gi_iadd (q := 608) C (dm_La_law 413 rfl) rfl ?_
  refine gi_sld (q := 609) (j := 6 * k + 2) C hX hbV (dm_La_law 414 rfl) rfl (by rw [show (2 : Int32) = nI 2 from rfl, nI_add]) ⟨by omega, by omega⟩ ?_
  refine gi_aload_n (q := 610) (i := 0) C (dm_La_law 415 rfl) rfl rfl rfl ?_
  refine gi_iload_n (q := 611) (i := 3) C (dm_La_law 416 rfl) rfl rfl rfl ?_
  refine gi_iconst (q := 612) (v := 3) C (dm_La_law 417 rfl) rfl (by decide) ?_
  refine gi_iadd (q := 613) C (dm_La_law 418 rfl) rfl ?_
  refine gi_sld (q := 614) (j := 6 * k + 3) C hX hbV (dm_La_law 419 rfl) rfl (by rw [show (3 : Int32) = nI 3 from rfl, nI_add]) ⟨by omega, by omega⟩ ?_
  refine gi_aload_n (q := 615) (i := 0) C (dm_La_law 420 rfl) rfl rfl rfl ?_
  refine gi_iload_n (q := 616) (i := 3) C (dm_La_law 421 rfl) rfl rfl rfl ?_
  refine gi_iconst (q := 617) (v := 4) C (dm_La_law 422 rfl) rfl (by decide) ?_
  refine gi_iadd (q := 618) C (dm_La_law 423 rfl) rfl ?_
  refine gi_sld (q := 619) (j := 6 * k + 4) C hX hbV (dm_La_law 424 rfl) rfl (by rw [show (4 : Int32) = nI 4 from rfl, nI_add]) ⟨by omega, by omega⟩ ?_
  refine gi_aload_n (q := 620) (i := 0) C (dm_La_law 425 rfl) rfl rfl rfl ?_
  refine gi_iload_n (q := 621) (i := 3) C (dm_La_law 426 rfl) rfl rfl rfl ?_
  refine gi_iconst (q := 622) (v := 5) C (dm_La_law 427 rfl) rfl (by decide) ?_
  refine gi_iadd (q := 623) C (dm_La_law 428 rfl) rfl ?_
  refine gi_sld (q := 624) (j := 6 * k + 5) C hX hbV (dm_La_law 429 rfl) rfl (by rw [show (5 : Int32) = nI 5 from rfl, nI_add]) ⟨by omega, by omega⟩ ?_
  refine gi_callv 5 (q := 627) C (dm_La_law 430 rfl) rfl my_Mo_plant lk_La_76 im_Mo_plant rfl (hMM) hM rfl rfl ⟨(Nat.le_of_ble_eq_true rfl), (Nat.le_of_ble_eq_true rfl)⟩ (Nat.le_of_ble_eq_true rfl) ⟨(Nat.le_of_ble_eq_true rfl), (Nat.le_of_ble_eq_true rfl)⟩ (fun r624 n624 h624 e624 => ?_)
  obtain ⟨rfl, rfl, hP⟩ := e624
  refine gi_icmp_eq (q := 630) (tgt := 837) C (dm_La_law 431 rfl) rfl (by decide) (fun c627 => ?_) (fun c627 => ?_)
  · exact kk _ hP
  · exact absurd rfl c627
/-- H_forgetState of both, one behind the other: the same answer -/
def cj_14 (l : Launch) (V : gi_V) (X M n : Nat) (x y : Int32) (h : gi_H) (P : gi_H → Prop) : Prop := ∃ Mid : Int32 → gi_H → Prop, gi_T l V y_H_forgetState b_H_forgetState 3 (some .boolean) 3 65 0 0 [.ref X, .int x, .int y] n h (fun r n' h' => n' = n ∧ ∃ v, r = some (.int v) ∧ Mid v h') ∧ ∀ v h1, Mid v h1 → (∃ fs, h1 M = some (gi_O 12 fs)) ∧ gi_T l V y_Mo_forgetState b_Mo_forgetState 3 (some .boolean) 3 65 0 0 [.ref M, .int x, .int y] n h1 (fun r n' h' => n' = n ∧ r = some (.int v) ∧ P h')
set_option maxHeartbeats 4000000 in
set_option maxRecDepth 100000 in
theorem lw_s14 (C : gi_C p s m #[Value.ref b] meth c code 4 R_La V) (hX : va_X b Lx xs s s.heap) (hbV : b < s.heap.size ∧ ¬ V.2.2 ≤ b) (hk : 6 * k + 6 ≤ Lx) (hLx : Lx ≤ 3072) (hx : ∃ fs, h X = some (gi_O 0 fs)) (hc : cj_14 l V X M n (xs (6 * k + 1)) (xs (6 * k + 2)) h P) (kk : ∀ h', P h' → lwG p l e s m b below meth c V 837 [(3, .int (nI (6 * k))), (2, .ref M), (1, .ref X), (0, .ref b)] [] n h') : lwG p l e s m b below meth c V 632 [(3, .int (nI (6 * k))), (2, .ref M), (1, .ref X), (0, .ref b)] [] n h := by
  obtain ⟨fs, hx⟩ := hx
  obtain ⟨Mid, hH, hT⟩ := hc
  refine gi_aload_n (q := 633) (i := 1) C (dm_La_law 434 rfl) rfl rfl rfl ?_
  refine gi_aload_n (q := 634) (i := 0) C (dm_La_law 435 rfl) rfl rfl rfl ?_
  refine gi_iload_n (q := 635) (i := 3) C (dm_La_law 436 rfl) rfl rfl rfl ?_
  refine gi_iconst (q := 636) (v := 1) C (dm_La_law 437 rfl) rfl (by decide) ?_
  refine gi_iadd (q := 637) C (dm_La_law 438 rfl) rfl ?_
  refine gi_sld (q := 638) (j := 6 * k + 1) C hX hbV (dm_La_law 439 rfl) rfl (by rw [show (1 : Int32) = nI 1 from rfl, nI_add]) ⟨by omega, by omega⟩ ?_
  refine gi_aload_n (q := 639) (i := 0) C (dm_La_law 440 rfl) rfl rfl rfl ?_
  refine gi_iload_n (q := 640) (i := 3) C (dm_La_law 441 rfl) rfl rfl rfl ?_
  refine gi_iconst (q := 641) (v := 2) C (dm_La_law 442 rfl) rfl (by decide) ?_
  refine gi_iadd (q := 642) C (dm_La_law 443 rfl) rfl ?_
  refine gi_sld (q := 643) (j := 6 * k + 2) C hX hbV (dm_La_law 444 rfl) rfl (by rw [show (2 : Int32) = nI 2 from rfl, nI_add]) ⟨by omega, by omega⟩ ?_
  refine gi_callv 2 (q := 646) C (dm_La_law 445 rfl) rfl my_H_forgetState lk_La_77 im_H_forgetState rfl (hH) hx rfl rfl ⟨(Nat.le_of_ble_eq_true rfl), (Nat.le_of_ble_eq_true rfl)⟩ (Nat.le_of_ble_eq_true rfl) ⟨(Nat.le_of_ble_eq_true rfl), (Nat.le_of_ble_eq_true rfl)⟩ (fun r643 n643 h643 e643 => ?_)
  obtain ⟨rfl, v, rfl, hm⟩ := e643
  obtain ⟨⟨gs, hM⟩, hMM⟩ := hT _ _ hm
  refine gi_aload_n (q := 647) (i := 2) C (dm_La_law 446 rfl) rfl rfl rfl ?_
  refine gi_aload_n (q := 648) (i := 0) C (dm_La_law 447 rfl) rfl rfl rfl ?_
  refine gi_iload_n (q := 649) (i := 3) C (dm_La_law 448 rfl) rfl rfl rfl ?_
  refine gi_iconst (q := 650) (v := 1) C (dm_La_law 449 rfl) rfl (by decide) ?_
  refine gi_iadd (q := 651) C (dm_La_law 450 rfl) rfl ?_
  refine gi_sld (q := 652) (j := 6 * k + 1) C hX hbV (dm_La_law 451 rfl) rfl (by rw [show (1 : Int32) = nI 1 from rfl, nI_add]) ⟨by omega, by omega⟩ ?_
  refine gi_aload_n (q := 653) (i := 0) C (dm_La_law 452 rfl) rfl rfl rfl ?_
  refine gi_iload_n (q := 654) (i := 3) C (dm_La_law 453 rfl) rfl rfl rfl ?_
  refine gi_iconst (q := 655) (v := 2) C (dm_La_law 454 rfl) rfl (by decide) ?_
  refine gi_iadd (q := 656) C (dm_La_law 455 rfl) rfl ?_
  refine gi_sld (q := 657) (j := 6 * k + 2) C hX hbV (dm_La_law 456 rfl) rfl (by rw [show (2 : Int32) = nI 2 from rfl, nI_add]) ⟨by omega, by omega⟩ ?_
  refine gi_callv 2 (q := 660) C (dm_La_law 457 rfl) rfl my_Mo_forgetState lk_La_80 im_Mo_forgetState rfl (hMM) hM rfl rfl ⟨(Nat.le_of_ble_eq_true rfl), (Nat.le_of_ble_eq_true rfl)⟩ (Nat.le_of_ble_eq_true rfl) ⟨(Nat.le_of_ble_eq_true rfl), (Nat.le_of_ble_eq_true rfl)⟩ (fun r657 n657 h657 e657 => ?_)
  obtain ⟨rfl, rfl, hP⟩ := e657
  refine gi_icmp_eq (q := 663) (tgt := 837) C (dm_La_law 458 rfl) rfl (by decide) (fun c660 => ?_) (fun c660 => ?_)
  · exact kk _ hP
  · exact absurd rfl c660
/-- H_check of both, one behind the other: the same answer -/
def cj_15 (l : Launch) (V : gi_V) (X M n : Nat) (h : gi_H) (P : gi_H → Prop) : Prop := ∃ Mid : Int32 → gi_H → Prop, gi_T l V y_H_check b_H_check 3 (some .int) 6 168 0 0 [.ref X] n h (fun r n' h' => n' = n ∧ ∃ v, r = some (.int v) ∧ Mid v h') ∧ ∀ v h1, Mid v h1 → (∃ fs, h1 M = some (gi_O 12 fs)) ∧ gi_T l V y_Mo_check b_Mo_check 2 (some .int) 7 228 0 0 [.ref M] n h1 (fun r n' h' => n' = n ∧ r = some (.int v) ∧ P h')
set_option maxHeartbeats 4000000 in
set_option maxRecDepth 100000 in
theorem lw_s15 (C : gi_C p s m #[Value.ref b] meth c code 4 R_La V) (hX : va_X b Lx xs s s.heap) (hbV : b < s.heap.size ∧ ¬ V.2.2 ≤ b) (hk : 6 * k + 6 ≤ Lx) (hLx : Lx ≤ 3072) (hx : ∃ fs, h X = some (gi_O 0 fs)) (hc : cj_15 l V X M n  h P) (kk : ∀ h', P h' → lwG p l e s m b below meth c V 837 [(3, .int (nI (6 * k))), (2, .ref M), (1, .ref X), (0, .ref b)] [] n h') : lwG p l e s m b below meth c V 665 [(3, .int (nI (6 * k))), (2, .ref M), (1, .ref X), (0, .ref b)] [] n h := by
  obtain ⟨fs, hx⟩ := hx
  obtain ⟨Mid, hH, hT⟩ := hc
  refine gi_aload_n (q := 666) (i := 1) C (dm_La_law 461 rfl) rfl rfl rfl ?_
  refine gi_callv 0 (q := 669) C (dm_La_law 462 rfl) rfl my_H_check lk_La_81 im_H_check rfl (hH) hx rfl rfl ⟨(Nat.le_of_ble_eq_true rfl), (Nat.le_of_ble_eq_true rfl)⟩ (Nat.le_of_ble_eq_true rfl) ⟨(Nat.le_of_ble_eq_true rfl), (Nat.le_of_ble_eq_true rfl)⟩ (fun r666 n666 h666 e666 => ?_)
  obtain ⟨rfl, v, rfl, hm⟩ := e666
  obtain ⟨⟨gs, hM⟩, hMM⟩ := hT _ _ hm
  refine gi_aload_n (q := 670) (i := 2) C (dm_La_law 463 rfl) rfl rfl rfl ?_
  refine gi_callv 0 (q := 673) C (dm_La_law 464 rfl) rfl my_Mo_check lk_La_84 im_Mo_check rfl (hMM) hM rfl rfl ⟨(Nat.le_of_ble_eq_true rfl), (Nat.le_of_ble_eq_true rfl)⟩ (Nat.le_of_ble_eq_true rfl) ⟨(Nat.le_of_ble_eq_true rfl), (Nat.le_of_ble_eq_true rfl)⟩ (fun r670 n670 h670 e670 => ?_)
  obtain ⟨rfl, rfl, hP⟩ := e670
  refine gi_icmp_eq (q := 676) (tgt := 837) C (dm_La_law 465 rfl) rfl (by decide) (fun c673 => ?_) (fun c673 => ?_)
  · exact kk _ hP
  · exact absurd rfl c673
/-- H_argument of both, one behind the other: the same answer -/
def cj_16 (l : Launch) (V : gi_V) (X M n : Nat) (x y : Int32) (h : gi_H) (P : gi_H → Prop) : Prop := ∃ Mid : Int32 → gi_H → Prop, gi_T l V y_H_argument b_H_argument 3 (some .int) 1 23 0 0 [.ref X, .int x, .int y] n h (fun r n' h' => n' = n ∧ ∃ v, r = some (.int v) ∧ Mid v h') ∧ ∀ v h1, Mid v h1 → (∃ fs, h1 M = some (gi_O 12 fs)) ∧ gi_T l V y_Mo_argument b_Mo_argument 4 (some .int) 0 0 0 0 [.ref M, .int x, .int y] n h1 (fun r n' h' => n' = n ∧ r = some (.int v) ∧ P h')
set_option maxHeartbeats 4000000 in
set_option maxRecDepth 100000 in
theorem lw_s16 (C : gi_C p s m #[Value.ref b] meth c code 4 R_La V) (hX : va_X b Lx xs s s.heap) (hbV : b < s.heap.size ∧ ¬ V.2.2 ≤ b) (hk : 6 * k + 6 ≤ Lx) (hLx : Lx ≤ 3072) (hx : ∃ fs, h X = some (gi_O 0 fs)) (hc : cj_16 l V X M n (xs (6 * k + 1)) (xs (6 * k + 2)) h P) (kk : ∀ h', P h' → lwG p l e s m b below meth c V 837 [(3, .int (nI (6 * k))), (2, .ref M), (1, .ref X), (0, .ref b)] [] n h') : lwG p l e s m b below meth c V 678 [(3, .int (nI (6 * k))), (2, .ref M), (1, .ref X), (0, .ref b)] [] n h := by
  obtain ⟨fs, hx⟩ := hx
  obtain ⟨Mid, hH, hT⟩ := hc
  refine gi_aload_n (q := 679) (i := 1) C (dm_La_law 468 rfl) rfl rfl rfl ?_
  refine gi_aload_n (q := 680) (i := 0) C (dm_La_law 469 rfl) rfl rfl rfl ?_
  refine gi_iload_n (q := 681) (i := 3) C (dm_La_law 470 rfl) rfl rfl rfl ?_
  refine gi_iconst (q := 682) (v := 1) C (dm_La_law 471 rfl) rfl (by decide) ?_
  refine gi_iadd (q := 683) C (dm_La_law 472 rfl) rfl ?_
  refine gi_sld (q := 684) (j := 6 * k + 1) C hX hbV (dm_La_law 473 rfl) rfl (by rw [show (1 : Int32) = nI 1 from rfl, nI_add]) ⟨by omega, by omega⟩ ?_
  refine gi_aload_n (q := 685) (i := 0) C (dm_La_law 474 rfl) rfl rfl rfl ?_
  refine gi_iload_n (q := 686) (i := 3) C (dm_La_law 475 rfl) rfl rfl rfl ?_
  refine gi_iconst (q := 687) (v := 2) C (dm_La_law 476 rfl) rfl (by decide) ?_
  refine gi_iadd (q := 688) C (dm_La_law 477 rfl) rfl ?_
  refine gi_sld (q := 689) (j := 6 * k + 2) C hX hbV (dm_La_law 478 rfl) rfl (by rw [show (2 : Int32) = nI 2 from rfl, nI_add]) ⟨by omega, by omega⟩ ?_
  refine gi_callv 2 (q := 692) C (dm_La_law 479 rfl) rfl my_H_argument lk_La_85 im_H_argument rfl (hH) hx rfl rfl ⟨(Nat.le_of_ble_eq_true rfl), (Nat.le_of_ble_eq_true rfl)⟩ (Nat.le_of_ble_eq_true rfl) ⟨(Nat.le_of_ble_eq_true rfl), (Nat.le_of_ble_eq_true rfl)⟩ (fun r689 n689 h689 e689 => ?_)
  obtain ⟨rfl, v, rfl, hm⟩ := e689
  obtain ⟨⟨gs, hM⟩, hMM⟩ := hT _ _ hm
  refine gi_aload_n (q := 693) (i := 2) C (dm_La_law 480 rfl) rfl rfl rfl ?_
  refine gi_aload_n (q := 694) (i := 0) C (dm_La_law 481 rfl) rfl rfl rfl ?_
  refine gi_iload_n (q := 695) (i := 3) C (dm_La_law 482 rfl) rfl rfl rfl ?_
  refine gi_iconst (q := 696) (v := 1) C (dm_La_law 483 rfl) rfl (by decide) ?_
  refine gi_iadd (q := 697) C (dm_La_law 484 rfl) rfl ?_
  refine gi_sld (q := 698) (j := 6 * k + 1) C hX hbV (dm_La_law 485 rfl) rfl (by rw [show (1 : Int32) = nI 1 from rfl, nI_add]) ⟨by omega, by omega⟩ ?_
  refine gi_aload_n (q := 699) (i := 0) C (dm_La_law 486 rfl) rfl rfl rfl ?_
  refine gi_iload_n (q := 700) (i := 3) C (dm_La_law 487 rfl) rfl rfl rfl ?_
  refine gi_iconst (q := 701) (v := 2) C (dm_La_law 488 rfl) rfl (by decide) ?_
  refine gi_iadd (q := 702) C (dm_La_law 489 rfl) rfl ?_
  refine gi_sld (q := 703) (j := 6 * k + 2) C hX hbV (dm_La_law 490 rfl) rfl (by rw [show (2 : Int32) = nI 2 from rfl, nI_add]) ⟨by omega, by omega⟩ ?_
  refine gi_callv 2 (q := 706) C (dm_La_law 491 rfl) rfl my_Mo_argument lk_La_89 im_Mo_argument rfl (hMM) hM rfl rfl ⟨(Nat.le_of_ble_eq_true rfl), (Nat.le_of_ble_eq_true rfl)⟩ (Nat.le_of_ble_eq_true rfl) ⟨(Nat.le_of_ble_eq_true rfl), (Nat.le_of_ble_eq_true rfl)⟩ (fun r703 n703 h703 e703 => ?_)
  obtain ⟨rfl, rfl, hP⟩ := e703
  refine gi_icmp_eq (q := 709) (tgt := 837) C (dm_La_law 492 rfl) rfl (by decide) (fun c706 => ?_) (fun c706 => ?_)
  · exact kk _ hP
  · exact absurd rfl c706
/-- H_fill of both, one behind the other: the same answer -/
def cj_17 (l : Launch) (V : gi_V) (X M n : Nat) (x y z : Int32) (h : gi_H) (P : gi_H → Prop) : Prop := ∃ Mid : Int32 → gi_H → Prop, gi_T l V y_H_fill b_H_fill 4 (some .int) 1 23 0 0 [.ref X, .int x, .int y, .int z] n h (fun r n' h' => n' = n ∧ ∃ v, r = some (.int v) ∧ Mid v h') ∧ ∀ v h1, Mid v h1 → (∃ fs, h1 M = some (gi_O 12 fs)) ∧ gi_T l V y_Mo_fill b_Mo_fill 4 (some .int) 0 0 0 0 [.ref M, .int x, .int y, .int z] n h1 (fun r n' h' => n' = n ∧ r = some (.int v) ∧ P h')
set_option maxHeartbeats 4000000 in
set_option maxRecDepth 100000 in
theorem lw_s17 (C : gi_C p s m #[Value.ref b] meth c code 4 R_La V) (hX : va_X b Lx xs s s.heap) (hbV : b < s.heap.size ∧ ¬ V.2.2 ≤ b) (hk : 6 * k + 6 ≤ Lx) (hLx : Lx ≤ 3072) (hx : ∃ fs, h X = some (gi_O 0 fs)) (hc : cj_17 l V X M n (xs (6 * k + 1)) (xs (6 * k + 2)) (xs (6 * k + 3)) h P) (kk : ∀ h', P h' → lwG p l e s m b below meth c V 837 [(3, .int (nI (6 * k))), (2, .ref M), (1, .ref X), (0, .ref b)] [] n h') : lwG p l e s m b below meth c V 711 [(3, .int (nI (6 * k))), (2, .ref M), (1, .ref X), (0, .ref b)] [] n h := by
  obtain ⟨fs, hx⟩ := hx
  obtain ⟨Mid, hH, hT⟩ := hc
  refine gi_aload_n (q := 712) (i := 1) C (dm_La_law 495 rfl) rfl rfl rfl ?_
  refine gi_aload_n (q := 713) (i := 0) C (dm_La_law 496 rfl) rfl rfl rfl ?_
  refine gi_iload_n (q := 714) (i := 3) C (dm_La_law 497 rfl) rfl rfl rfl ?_
  refine gi_iconst (q := 715) (v := 1) C (dm_La_law 498 rfl) rfl (by decide) ?_
  refine gi_iadd (q := 716) C (dm_La_law 499 rfl) rfl ?_
  refine gi_sld (q := 717) (j := 6 * k + 1) C hX hbV (dm_La_law 500 rfl) rfl (by rw [show (1 : Int32) = nI 1 from rfl, nI_add]) ⟨by omega, by omega⟩ ?_
  refine gi_aload_n (q := 718) (i := 0) C (dm_La_law 501 rfl) rfl rfl rfl ?_
  refine gi_iload_n (q := 719) (i := 3) C (dm_La_law 502 rfl) rfl rfl rfl ?_
  refine gi_iconst (q := 720) (v := 2) C (dm_La_law 503 rfl) rfl (by decide) ?_
  refine gi_iadd (q := 721) C (dm_La_law 504 rfl) rfl ?_
  refine gi_sld (q := 722) (j := 6 * k + 2) C hX hbV (dm_La_law 505 rfl) rfl (by rw [show (2 : Int32) = nI 2 from rfl, nI_add]) ⟨by omega, by omega⟩ ?_
  refine gi_aload_n (q := 723) (i := 0) C (dm_La_law 506 rfl) rfl rfl rfl ?_
  refine gi_iload_n (q := 724) (i := 3) C (dm_La_law 507 rfl) rfl rfl rfl ?_
  refine gi_iconst (q := 725) (v := 3) C (dm_La_law 508 rfl) rfl (by decide) ?_
  refine gi_iadd (q := 726) C (dm_La_law 509 rfl) rfl ?_
  refine gi_sld (q := 727) (j := 6 * k + 3) C hX hbV (dm_La_law 510 rfl) rfl (by rw [show (3 : Int32) = nI 3 from rfl, nI_add]) ⟨by omega, by omega⟩ ?_
  refine gi_callv 3 (q := 730) C (dm_La_law 511 rfl) rfl my_H_fill lk_La_90 im_H_fill rfl (hH) hx rfl rfl ⟨(Nat.le_of_ble_eq_true rfl), (Nat.le_of_ble_eq_true rfl)⟩ (Nat.le_of_ble_eq_true rfl) ⟨(Nat.le_of_ble_eq_true rfl), (Nat.le_of_ble_eq_true rfl)⟩ (fun r727 n727 h727 e727 => ?_)
  obtain ⟨rfl, v, rfl, hm⟩ := e727
  obtain ⟨⟨gs, hM⟩, hMM⟩ := hT _ _ hm
  refine gi_aload_n (q := 731) (i := 2) C (dm_La_law 512 rfl) rfl rfl rfl ?_
  refine gi_aload_n (q := 732) (i := 0) C (dm_La_law 513 rfl) rfl rfl rfl ?_
  refine gi_iload_n (q := 733) (i := 3) C (dm_La_law 514 rfl) rfl rfl rfl ?_
  refine gi_iconst (q := 734) (v := 1) C (dm_La_law 515 rfl) rfl (by decide) ?_
  refine gi_iadd (q := 735) C (dm_La_law 516 rfl) rfl ?_
  refine gi_sld (q := 736) (j := 6 * k + 1) C hX hbV (dm_La_law 517 rfl) rfl (by rw [show (1 : Int32) = nI 1 from rfl, nI_add]) ⟨by omega, by omega⟩ ?_
  refine gi_aload_n (q := 737) (i := 0) C (dm_La_law 518 rfl) rfl rfl rfl ?_
  refine gi_iload_n (q := 738) (i := 3) C (dm_La_law 519 rfl) rfl rfl rfl ?_
  refine gi_iconst (q := 739) (v := 2) C (dm_La_law 520 rfl) rfl (by decide) ?_
  refine gi_iadd (q := 740) C (dm_La_law 521 rfl) rfl ?_
  refine gi_sld (q := 741) (j := 6 * k + 2) C hX hbV (dm_La_law 522 rfl) rfl (by rw [show (2 : Int32) = nI 2 from rfl, nI_add]) ⟨by omega, by omega⟩ ?_
  refine gi_aload_n (q := 742) (i := 0) C (dm_La_law 523 rfl) rfl rfl rfl ?_
  refine gi_iload_n (q := 743) (i := 3) C (dm_La_law 524 rfl) rfl rfl rfl ?_
  refine gi_iconst (q := 744) (v := 3) C (dm_La_law 525 rfl) rfl (by decide) ?_
  refine gi_iadd (q := 745) C (dm_La_law 526 rfl) rfl ?_
  refine gi_sld (q := 746) (j := 6 * k + 3) C hX hbV (dm_La_law 527 rfl) rfl (by rw [show (3 : Int32) = nI 3 from rfl, nI_add]) ⟨by omega, by omega⟩ ?_
  refine gi_callv 3 (q := 749) C (dm_La_law 528 rfl) rfl my_Mo_fill lk_La_93 im_Mo_fill rfl (hMM) hM rfl rfl ⟨(Nat.le_of_ble_eq_true rfl), (Nat.le_of_ble_eq_true rfl)⟩ (Nat.le_of_ble_eq_true rfl) ⟨(Nat.le_of_ble_eq_true rfl), (Nat.le_of_ble_eq_true rfl)⟩ (fun r746 n746 h746 e746 => ?_)
  obtain ⟨rfl, rfl, hP⟩ := e746
  refine gi_icmp_eq (q := 752) (tgt := 837) C (dm_La_law 529 rfl) rfl (by decide) (fun c749 => ?_) (fun c749 => ?_)
  · exact kk _ hP
  · exact absurd rfl c749
/-- H_forget of both, one behind the other: the same answer -/
def cj_18 (l : Launch) (V : gi_V) (X M n : Nat) (h : gi_H) (P : gi_H → Prop) : Prop := ∃ Mid : Int32 → gi_H → Prop, gi_T l V y_H_forget b_H_forget 2 (some .int) 0 0 0 0 [.ref X] n h (fun r n' h' => n' = n ∧ ∃ v, r = some (.int v) ∧ Mid v h') ∧ ∀ v h1, Mid v h1 → (∃ fs, h1 M = some (gi_O 12 fs)) ∧ gi_T l V y_Mo_forget b_Mo_forget 2 (some .int) 0 0 0 0 [.ref M] n h1 (fun r n' h' => n' = n ∧ r = some (.int v) ∧ P h')
set_option maxHeartbeats 4000000 in
set_option maxRecDepth 100000 in
theorem lw_s18 (C : gi_C p s m #[Value.ref b] meth c code 4 R_La V) (hX : va_X b Lx xs s s.heap) (hbV : b < s.heap.size ∧ ¬ V.2.2 ≤ b) (hk : 6 * k + 6 ≤ Lx) (hLx : Lx ≤ 3072) (hx : ∃ fs, h X = some (gi_O 0 fs)) (hc : cj_18 l V X M n  h P) (kk : ∀ h', P h' → lwG p l e s m b below meth c V 837 [(3, .int (nI (6 * k))), (2, .ref M), (1, .ref X), (0, .ref b)] [] n h') : lwG p l e s m b below meth c V 754 [(3, .int (nI (6 * k))), (2, .ref M), (1, .ref X), (0, .ref b)] [] n h := by
  obtain ⟨fs, hx⟩ := hx
  obtain ⟨Mid, hH, hT⟩ := hc
  refine gi_aload_n (q := 755) (i := 1) C (dm_La_law 532 rfl) rfl rfl rfl ?_
  refine gi_callv 0 (q := 758) C (dm_La_law 533 rfl) rfl my_H_forget lk_La_94 im_H_forget rfl (hH) hx rfl rfl ⟨(Nat.le_of_ble_eq_true rfl), (Nat.le_of_ble_eq_true rfl)⟩ (Nat.le_of_ble_eq_true rfl) ⟨(Nat.le_of_ble_eq_true rfl), (Nat.le_of_ble_eq_true rfl)⟩ (fun r755 n755 h755 e755 => ?_)
  obtain ⟨rfl, v, rfl, hm⟩ := e755
  obtain ⟨⟨gs, hM⟩, hMM⟩ := hT _ _ hm
  refine gi_aload_n (q := 759) (i := 2) C (dm_La_law 534 rfl) rfl rfl rfl ?_
  refine gi_callv 0 (q := 762) C (dm_La_law 535 rfl) rfl my_Mo_forget lk_La_97 im_Mo_forget rfl (hMM) hM rfl rfl ⟨(Nat.le_of_ble_eq_true rfl), (Nat.le_of_ble_eq_true rfl)⟩ (Nat.le_of_ble_eq_true rfl) ⟨(Nat.le_of_ble_eq_true rfl), (Nat.le_of_ble_eq_true rfl)⟩ (fun r759 n759 h759 e759 => ?_)
  obtain ⟨rfl, rfl, hP⟩ := e759
  refine gi_icmp_eq (q := 765) (tgt := 837) C (dm_La_law 536 rfl) rfl (by decide) (fun c762 => ?_) (fun c762 => ?_)
  · exact kk _ hP
  · exact absurd rfl c762
/-- H_run of both, one behind the other: the same answer -/
def cj_19 (l : Launch) (V : gi_V) (X M n : Nat) (x y : Int32) (h : gi_H) (P : gi_H → Prop) : Prop := ∃ Mid : Int32 → gi_H → Prop, gi_T l V y_H_run b_H_run 3 (some .int) 6 140 0 0 [.ref X, .int x, .int y] n h (fun r n' h' => n' = n ∧ ∃ v, r = some (.int v) ∧ Mid v h') ∧ ∀ v h1, Mid v h1 → (∃ fs, h1 M = some (gi_O 12 fs)) ∧ gi_T l V y_Mo_run b_Mo_run 5 (some .int) 6 149 0 0 [.ref M, .int x, .int y] n h1 (fun r n' h' => n' = n ∧ r = some (.int v) ∧ P h')
set_option maxHeartbeats 4000000 in
set_option maxRecDepth 100000 in
theorem lw_s19 (C : gi_C p s m #[Value.ref b] meth c code 4 R_La V) (hX : va_X b Lx xs s s.heap) (hbV : b < s.heap.size ∧ ¬ V.2.2 ≤ b) (hk : 6 * k + 6 ≤ Lx) (hLx : Lx ≤ 3072) (hx : ∃ fs, h X = some (gi_O 0 fs)) (hc : cj_19 l V X M n (xs (6 * k + 1)) (xs (6 * k + 2)) h P) (kk : ∀ h', P h' → lwG p l e s m b below meth c V 837 [(3, .int (nI (6 * k))), (2, .ref M), (1, .ref X), (0, .ref b)] [] n h') : lwG p l e s m b below meth c V 767 [(3, .int (nI (6 * k))), (2, .ref M), (1, .ref X), (0, .ref b)] [] n h := by
  obtain ⟨fs, hx⟩ := hx
  obtain ⟨Mid, hH, hT⟩ := hc
  refine gi_aload_n (q := 768) (i := 1) C (dm_La_law 539 rfl) rfl rfl rfl ?_
  refine gi_aload_n (q := 769) (i := 0) C (dm_La_law 540 rfl) rfl rfl rfl ?_
  refine gi_iload_n (q := 770) (i := 3) C (dm_La_law 541 rfl) rfl rfl rfl ?_
  refine gi_iconst (q := 771) (v := 1) C (dm_La_law 542 rfl) rfl (by decide) ?_
  refine gi_iadd (q := 772) C (dm_La_law 543 rfl) rfl ?_
  refine gi_sld (q := 773) (j := 6 * k + 1) C hX hbV (dm_La_law 544 rfl) rfl (by rw [show (1 : Int32) = nI 1 from rfl, nI_add]) ⟨by omega, by omega⟩ ?_
  refine gi_aload_n (q := 774) (i := 0) C (dm_La_law 545 rfl) rfl rfl rfl ?_
  refine gi_iload_n (q := 775) (i := 3) C (dm_La_law 546 rfl) rfl rfl rfl ?_
  refine gi_iconst (q := 776) (v := 2) C (dm_La_law 547 rfl) rfl (by decide) ?_
  refine gi_iadd (q := 777) C (dm_La_law 548 rfl) rfl ?_
  refine gi_sld (q := 778) (j := 6 * k + 2) C hX hbV (dm_La_law 549 rfl) rfl (by rw [show (2 : Int32) = nI 2 from rfl, nI_add]) ⟨by omega, by omega⟩ ?_
  refine gi_callv 2 (q := 781) C (dm_La_law 550 rfl) rfl my_H_run lk_La_98 im_H_run rfl (hH) hx rfl rfl ⟨(Nat.le_of_ble_eq_true rfl), (Nat.le_of_ble_eq_true rfl)⟩ (Nat.le_of_ble_eq_true rfl) ⟨(Nat.le_of_ble_eq_true rfl), (Nat.le_of_ble_eq_true rfl)⟩ (fun r778 n778 h778 e778 => ?_)
  obtain ⟨rfl, v, rfl, hm⟩ := e778
  obtain ⟨⟨gs, hM⟩, hMM⟩ := hT _ _ hm
  refine gi_aload_n (q := 782) (i := 2) C (dm_La_law 551 rfl) rfl rfl rfl ?_
  refine gi_aload_n (q := 783) (i := 0) C (dm_La_law 552 rfl) rfl rfl rfl ?_
  refine gi_iload_n (q := 784) (i := 3) C (dm_La_law 553 rfl) rfl rfl rfl ?_
  refine gi_iconst (q := 785) (v := 1) C (dm_La_law 554 rfl) rfl (by decide) ?_
  refine gi_iadd (q := 786) C (dm_La_law 555 rfl) rfl ?_
  refine gi_sld (q := 787) (j := 6 * k + 1) C hX hbV (dm_La_law 556 rfl) rfl (by rw [show (1 : Int32) = nI 1 from rfl, nI_add]) ⟨by omega, by omega⟩ ?_
  refine gi_aload_n (q := 788) (i := 0) C (dm_La_law 557 rfl) rfl rfl rfl ?_
  refine gi_iload_n (q := 789) (i := 3) C (dm_La_law 558 rfl) rfl rfl rfl ?_
  refine gi_iconst (q := 790) (v := 2) C (dm_La_law 559 rfl) rfl (by decide) ?_
  refine gi_iadd (q := 791) C (dm_La_law 560 rfl) rfl ?_
  refine gi_sld (q := 792) (j := 6 * k + 2) C hX hbV (dm_La_law 561 rfl) rfl (by rw [show (2 : Int32) = nI 2 from rfl, nI_add]) ⟨by omega, by omega⟩ ?_
  refine gi_callv 2 (q := 795) C (dm_La_law 562 rfl) rfl my_Mo_run lk_La_101 im_Mo_run rfl (hMM) hM rfl rfl ⟨(Nat.le_of_ble_eq_true rfl), (Nat.le_of_ble_eq_true rfl)⟩ (Nat.le_of_ble_eq_true rfl) ⟨(Nat.le_of_ble_eq_true rfl), (Nat.le_of_ble_eq_true rfl)⟩ (fun r792 n792 h792 e792 => ?_)
  obtain ⟨rfl, rfl, hP⟩ := e792
  refine gi_icmp_eq (q := 798) (tgt := 837) C (dm_La_law 563 rfl) rfl (by decide) (fun c795 => ?_) (fun c795 => ?_)
  · exact kk _ hP
  · exact absurd rfl c795
/-- H_ran of both, one behind the other: the same answer -/
def cj_20 (l : Launch) (V : gi_V) (X M n : Nat) (x : Int32) (h : gi_H) (P : gi_H → Prop) : Prop := ∃ Mid : Int64 → gi_H → Prop, gi_T l V y_H_ran b_H_ran 2 (some .long) 1 21 0 0 [.ref X, .int x] n h (fun r n' h' => n' = n ∧ ∃ v, r = some (.long v) ∧ Mid v h') ∧ ∀ v h1, Mid v h1 → (∃ fs, h1 M = some (gi_O 12 fs)) ∧ gi_T l V y_Mo_ran b_Mo_ran 2 (some .long) 0 0 0 0 [.ref M, .int x] n h1 (fun r n' h' => n' = n ∧ r = some (.long v) ∧ P h')
set_option maxHeartbeats 4000000 in
set_option maxRecDepth 100000 in
theorem lw_s20 (C : gi_C p s m #[Value.ref b] meth c code 4 R_La V) (hX : va_X b Lx xs s s.heap) (hbV : b < s.heap.size ∧ ¬ V.2.2 ≤ b) (hk : 6 * k + 6 ≤ Lx) (hLx : Lx ≤ 3072) (hx : ∃ fs, h X = some (gi_O 0 fs)) (hc : cj_20 l V X M n (xs (6 * k + 1)) h P) (kk : ∀ h', P h' → lwG p l e s m b below meth c V 837 [(3, .int (nI (6 * k))), (2, .ref M), (1, .ref X), (0, .ref b)] [] n h') : lwG p l e s m b below meth c V 800 [(3, .int (nI (6 * k))), (2, .ref M), (1, .ref X), (0, .ref b)] [] n h := by
  obtain ⟨fs, hx⟩ := hx
  obtain ⟨Mid, hH, hT⟩ := hc
  refine gi_aload_n (q := 801) (i := 1) C (dm_La_law 566 rfl) rfl rfl rfl ?_
  refine gi_aload_n (q := 802) (i := 0) C (dm_La_law 567 rfl) rfl rfl rfl ?_
  refine gi_iload_n (q := 803) (i := 3) C (dm_La_law 568 rfl) rfl rfl rfl ?_
  refine gi_iconst (q := 804) (v := 1) C (dm_La_law 569 rfl) rfl (by decide) ?_
  refine gi_iadd (q := 805) C (dm_La_law 570 rfl) rfl ?_
  refine gi_sld (q := 806) (j := 6 * k + 1) C hX hbV (dm_La_law 571 rfl) rfl (by rw [show (1 : Int32) = nI 1 from rfl, nI_add]) ⟨by omega, by omega⟩ ?_
  refine gi_callv 1 (q := 809) C (dm_La_law 572 rfl) rfl my_H_ran lk_La_102 im_H_ran rfl (hH) hx rfl rfl ⟨(Nat.le_of_ble_eq_true rfl), (Nat.le_of_ble_eq_true rfl)⟩ (Nat.le_of_ble_eq_true rfl) ⟨(Nat.le_of_ble_eq_true rfl), (Nat.le_of_ble_eq_true rfl)⟩ (fun r806 n806 h806 e806 => ?_)
  obtain ⟨rfl, v, rfl, hm⟩ := e806
  obtain ⟨⟨gs, hM⟩, hMM⟩ := hT _ _ hm
  refine gi_aload_n (q := 810) (i := 2) C (dm_La_law 573 rfl) rfl rfl rfl ?_
  refine gi_aload_n (q := 811) (i := 0) C (dm_La_law 574 rfl) rfl rfl rfl ?_
  refine gi_iload_n (q := 812) (i := 3) C (dm_La_law 575 rfl) rfl rfl rfl ?_
  refine gi_iconst (q := 813) (v := 1) C (dm_La_law 576 rfl) rfl (by decide) ?_
  refine gi_iadd (q := 814) C (dm_La_law 577 rfl) rfl ?_
  refine gi_sld (q := 815) (j := 6 * k + 1) C hX hbV (dm_La_law 578 rfl) rfl (by rw [show (1 : Int32) = nI 1 from rfl, nI_add]) ⟨by omega, by omega⟩ ?_
  refine gi_callv 1 (q := 818) C (dm_La_law 579 rfl) rfl my_Mo_ran lk_La_106 im_Mo_ran rfl (hMM) hM rfl rfl ⟨(Nat.le_of_ble_eq_true rfl), (Nat.le_of_ble_eq_true rfl)⟩ (Nat.le_of_ble_eq_true rfl) ⟨(Nat.le_of_ble_eq_true rfl), (Nat.le_of_ble_eq_true rfl)⟩ (fun r815 n815 h815 e815 => ?_)
  obtain ⟨rfl, rfl, hP⟩ := e815
  refine gi_lcmp (q := 819) C (dm_La_law 580 rfl) rfl ?_
  refine gi_if_eq (q := 822) (tgt := 837) C (dm_La_law 581 rfl) rfl (by decide) (fun c819 => ?_) (fun c819 => ?_)
  · exact kk _ hP
  · exact absurd (lw_cmp0 _) c819
/-- H_outside of both, one behind the other: the same answer -/
def cj_21 (l : Launch) (V : gi_V) (X M n : Nat) (h : gi_H) (P : gi_H → Prop) : Prop := ∃ Mid : Int32 → gi_H → Prop, gi_T l V y_H_outside b_H_outside 1 (some .int) 0 0 0 0 [.ref X] n h (fun r n' h' => n' = n ∧ ∃ v, r = some (.int v) ∧ Mid v h') ∧ ∀ v h1, Mid v h1 → (∃ fs, h1 M = some (gi_O 12 fs)) ∧ gi_T l V y_Mo_outside b_Mo_outside 1 (some .int) 0 0 0 0 [.ref M] n h1 (fun r n' h' => n' = n ∧ r = some (.int v) ∧ P h')
set_option maxHeartbeats 4000000 in
set_option maxRecDepth 100000 in
theorem lw_s21 (C : gi_C p s m #[Value.ref b] meth c code 4 R_La V) (hX : va_X b Lx xs s s.heap) (hbV : b < s.heap.size ∧ ¬ V.2.2 ≤ b) (hk : 6 * k + 6 ≤ Lx) (hLx : Lx ≤ 3072) (hx : ∃ fs, h X = some (gi_O 0 fs)) (hc : cj_21 l V X M n  h P) (kk : ∀ h', P h' → lwG p l e s m b below meth c V 837 [(3, .int (nI (6 * k))), (2, .ref M), (1, .ref X), (0, .ref b)] [] n h') : lwG p l e s m b below meth c V 824 [(3, .int (nI (6 * k))), (2, .ref M), (1, .ref X), (0, .ref b)] [] n h := by
  obtain ⟨fs, hx⟩ := hx
  obtain ⟨Mid, hH, hT⟩ := hc
  refine gi_aload_n (q := 825) (i := 1) C (dm_La_law 584 rfl) rfl rfl rfl ?_
  refine gi_callv 0 (q := 828) C (dm_La_law 585 rfl) rfl my_H_outside lk_La_107 im_H_outside rfl (hH) hx rfl rfl ⟨(Nat.le_of_ble_eq_true rfl), (Nat.le_of_ble_eq_true rfl)⟩ (Nat.le_of_ble_eq_true rfl) ⟨(Nat.le_of_ble_eq_true rfl), (Nat.le_of_ble_eq_true rfl)⟩ (fun r825 n825 h825 e825 => ?_)
  obtain ⟨rfl, v, rfl, hm⟩ := e825
  obtain ⟨⟨gs, hM⟩, hMM⟩ := hT _ _ hm
  refine gi_aload_n (q := 829) (i := 2) C (dm_La_law 586 rfl) rfl rfl rfl ?_
  refine gi_callv 0 (q := 832) C (dm_La_law 587 rfl) rfl my_Mo_outside lk_La_110 im_Mo_outside rfl (hMM) hM rfl rfl ⟨(Nat.le_of_ble_eq_true rfl), (Nat.le_of_ble_eq_true rfl)⟩ (Nat.le_of_ble_eq_true rfl) ⟨(Nat.le_of_ble_eq_true rfl), (Nat.le_of_ble_eq_true rfl)⟩ (fun r829 n829 h829 e829 => ?_)
  obtain ⟨rfl, rfl, hP⟩ := e829
  refine gi_icmp_eq (q := 835) (tgt := 837) C (dm_La_law 588 rfl) rfl (by decide) (fun c832 => ?_) (fun c832 => ?_)
  · exact kk _ hP
  · exact absurd rfl c832
set_option maxHeartbeats 4000000 in
set_option maxRecDepth 100000 in
theorem lw_end (hx : p.tables.exec = Jvm.exec) (hb : c.code = code) (hr : meth.sig.returnType = ret) (hlocks : meth.locks = false) (hV : V.2.2 = s.heap.size) {L : List (Nat × Value)} : lwG p l e s m b below meth c V 844 L [.int 1] n h := by
  intro ls H locs hl hh hs
  refine va_forget (fun q hq => by have := hs.2.2 q hq; rw [← hV]; exact this) ?_
  exact W.widen (Nat.le_of_ble_eq_true rfl) (Nat.le_of_ble_eq_true rfl) (lw_ret hx hb hr hlocks (dm_La_law 594 rfl))
theorem lw_gt {k : Nat} (hL : Lx ≤ 3072) (hk : 6 * k ≤ Lx) : nI Lx - 6 < nI (6 * k) ↔ Lx < 6 * k + 6 := by
  rw [Int32.lt_iff_toInt_lt, show (6 : Int32) = nI 6 from rfl, pk_sub_toInt (by omega) (by omega), nI_toInt (by omega)]
  omega
set_option maxHeartbeats 4000000 in
set_option maxRecDepth 100000 in
theorem lw_loop (C : gi_C p s m #[Value.ref b] meth c code 4 R_La V) (hr : meth.sig.returnType = ret) (hV : V.2.2 = s.heap.size) (hX : va_X b Lx xs s s.heap) (hbV : b < s.heap.size ∧ ¬ V.2.2 ≤ b) (hLx : Lx ≤ 3072) (J : Nat → gi_H → Prop) (hJ : ∀ k h, J k h → (∃ fs, h X = some (gi_O 0 fs))) (wd : ∀ k h, 6 * k + 6 ≤ Lx → J k h → J (k + 1) h)
    (w0 : ∀ k h, 6 * k + 6 ≤ Lx → J k h → cj_0 l V X M n (xs (6 * k + 1)) (xs (6 * k + 2)) (xs (6 * k + 3)) (xs (6 * k + 4)) h (J (k + 1))) (w1 : ∀ k h, 6 * k + 6 ≤ Lx → J k h → cj_1 l V X M n (xs (6 * k + 1)) (xs (6 * k + 2)) (xs (6 * k + 3)) h (J (k + 1))) (w2 : ∀ k h, 6 * k + 6 ≤ Lx → J k h → cj_2 l V X M n (xs (6 * k + 1)) h (J (k + 1))) (w3 : ∀ k h, 6 * k + 6 ≤ Lx → J k h → cj_3 l V X M n  h (J (k + 1))) (w4 : ∀ k h, 6 * k + 6 ≤ Lx → J k h → cj_4 l V X M n (xs (6 * k + 1)) h (J (k + 1))) (w5 : ∀ k h, 6 * k + 6 ≤ Lx → J k h → cj_5 l V X M n (xs (6 * k + 1)) h (J (k + 1))) (w6 : ∀ k h, 6 * k + 6 ≤ Lx → J k h → cj_6 l V X M n (xs (6 * k + 1)) (xs (6 * k + 2)) h (J (k + 1))) (w7 : ∀ k h, 6 * k + 6 ≤ Lx → J k h → cj_7 l V X M n (xs (6 * k + 1)) (xs (6 * k + 2)) (xs (6 * k + 3)) (xs (6 * k + 4)) h (J (k + 1))) (w8 : ∀ k h, 6 * k + 6 ≤ Lx → J k h → cj_8 l V X M n (xs (6 * k + 1)) (xs (6 * k + 2)) h (J (k + 1))) (w9 : ∀ k h, 6 * k + 6 ≤ Lx → J k h → cj_9 l V X M n (xs (6 * k + 1)) (xs (6 * k + 2)) h (J (k + 1))) (w10 : ∀ k h, 6 * k + 6 ≤ Lx → J k h → cj_10 l V X M n (xs (6 * k + 1)) (xs (6 * k + 2)) h (J (k + 1))) (w11 : ∀ k h, 6 * k + 6 ≤ Lx → J k h → cj_11 l V X M n (xs (6 * k + 1)) (xs (6 * k + 2)) (xs (6 * k + 3)) h (J (k + 1))) (w12 : ∀ k h, 6 * k + 6 ≤ Lx → J k h → cj_12 l V X M n (xs (6 * k + 1)) h (J (k + 1))) (w13 : ∀ k h, 6 * k + 6 ≤ Lx → J k h → cj_13 l V X M n (xs (6 * k + 1)) (xs (6 * k + 2)) (xs (6 * k + 3)) (xs (6 * k + 4)) (xs (6 * k + 5)) h (J (k + 1))) (w14 : ∀ k h, 6 * k + 6 ≤ Lx → J k h → cj_14 l V X M n (xs (6 * k + 1)) (xs (6 * k + 2)) h (J (k + 1))) (w15 : ∀ k h, 6 * k + 6 ≤ Lx → J k h → cj_15 l V X M n  h (J (k + 1))) (w16 : ∀ k h, 6 * k + 6 ≤ Lx → J k h → cj_16 l V X M n (xs (6 * k + 1)) (xs (6 * k + 2)) h (J (k + 1))) (w17 : ∀ k h, 6 * k + 6 ≤ Lx → J k h → cj_17 l V X M n (xs (6 * k + 1)) (xs (6 * k + 2)) (xs (6 * k + 3)) h (J (k + 1))) (w18 : ∀ k h, 6 * k + 6 ≤ Lx → J k h → cj_18 l V X M n  h (J (k + 1))) (w19 : ∀ k h, 6 * k + 6 ≤ Lx → J k h → cj_19 l V X M n (xs (6 * k + 1)) (xs (6 * k + 2)) h (J (k + 1))) (w20 : ∀ k h, 6 * k + 6 ≤ Lx → J k h → cj_20 l V X M n (xs (6 * k + 1)) h (J (k + 1))) (w21 : ∀ k h, 6 * k + 6 ≤ Lx → J k h → cj_21 l V X M n  h (J (k + 1))) (h0 : J 0 h) : lwG p l e s m b below meth c V 18 [(3, .int 0), (2, .ref M), (1, .ref X), (0, .ref b)] [] n h := by
  refine gi_while (σ := Nat) (fun k => Lx - 6 * k) (fun k => [(3, .int (nI (6 * k))), (2, .ref M), (1, .ref X), (0, .ref b)]) (fun _ => n) (fun _ => 16979) (fun _ => 213335) (fun k y => 6 * k ≤ Lx ∧ J k y) 0 ⟨by omega, h0⟩ ?_ (List.forall_mem_cons.mpr ⟨rfl, List.forall_mem_cons.mpr ⟨rfl, List.forall_mem_cons.mpr ⟨rfl, List.forall_mem_cons.mpr ⟨rfl, fun _ h => absurd h List.not_mem_nil⟩⟩⟩⟩) rfl rfl rfl
  rintro k h ⟨hk, hj⟩ ih
  try dsimp only at *
  refine gi_iload_n (q := 19) (i := 3) C (dm_La_law 10 rfl) rfl rfl rfl ?_
  refine gi_aload_n (q := 20) (i := 0) C (dm_La_law 11 rfl) rfl rfl rfl ?_
  refine gi_slen (q := 21) C hX hbV (dm_La_law 12 rfl) rfl ?_
  refine gi_bipush (q := 23) (v := 6) C (dm_La_law 13 rfl) rfl (by decide) ?_
  refine gi_isub (q := 24) C (dm_La_law 14 rfl) rfl ?_
  refine gi_icmp_gt (q := 27) (tgt := 843) C (dm_La_law 15 rfl) rfl (by decide) (fun c24 => ?_) (fun c24 => ?_)
  · refine gi_iconst (q := 844) (v := 1) C (dm_La_law 593 rfl) rfl (by decide) ?_
    exact lw_end C.1 C.2.1 hr C.locks hV
  · have hk6 : 6 * k + 6 ≤ Lx := by
      rcases Nat.lt_or_ge Lx (6 * k + 6) with q | q
      · exact absurd ((lw_gt hLx hk).mpr q) c24
      · exact q
    have hx := hJ k h hj
    have nx : ∀ h', J (k + 1) h' → lwG p l e s m b below meth c V 837 [(3, .int (nI (6 * k))), (2, .ref M), (1, .ref X), (0, .ref b)] [] n h' := by
      intro h' hj'
      refine gi_iinc (q := 840) (v := 6) C (dm_La_law 591 rfl) rfl rfl (by decide) (Nat.le_of_ble_eq_true rfl) ?_
      refine gi_goto (tgt := 18) C (dm_La_law 592 rfl) (by decide) ?_
      exact gi_close (ih (k + 1) _ ⟨by omega, hj'⟩ (by omega)) (List.forall_mem_cons.mpr ⟨(by rw [show 6 * (k + 1) = 6 * k + 6 by omega, ← nI_add]; rfl), List.forall_mem_cons.mpr ⟨rfl, List.forall_mem_cons.mpr ⟨rfl, List.forall_mem_cons.mpr ⟨rfl, fun _ h => absurd h List.not_mem_nil⟩⟩⟩⟩) rfl rfl rfl
    refine gi_aload_n (q := 28) (i := 0) C (dm_La_law 16 rfl) rfl rfl rfl ?_
    refine gi_iload_n (q := 29) (i := 3) C (dm_La_law 17 rfl) rfl rfl rfl ?_
    refine gi_sld (q := 30) (j := 6 * k) C hX hbV (dm_La_law 18 rfl) rfl rfl ⟨by omega, by omega⟩ ?_
    refine gi_bipush (q := 32) (v := 31) C (dm_La_law 19 rfl) rfl (by decide) ?_
    refine gi_iand (q := 33) C (dm_La_law 20 rfl) rfl ?_
    refine gi_switch (lo := 0) (hi := 21) (by decide) (fun c33 => ?_) (fun i33 u33 v33 c33 => ?_)
    · refine gi_tableOut (tgt := 837) C (dm_La_law 21 rfl) c33 (by decide) ?_
      exact nx _ (wd k _ hk6 hj)
    · have w33 : i33 = 0 ∨ i33 = 1 ∨ i33 = 2 ∨ i33 = 3 ∨ i33 = 4 ∨ i33 = 5 ∨ i33 = 6 ∨ i33 = 7 ∨ i33 = 8 ∨ i33 = 9 ∨ i33 = 10 ∨ i33 = 11 ∨ i33 = 12 ∨ i33 = 13 ∨ i33 = 14 ∨ i33 = 15 ∨ i33 = 16 ∨ i33 = 17 ∨ i33 = 18 ∨ i33 = 19 ∨ i33 = 20 ∨ i33 = 21 := by omega
      rcases w33 with rfl | rfl | rfl | rfl | rfl | rfl | rfl | rfl | rfl | rfl | rfl | rfl | rfl | rfl | rfl | rfl | rfl | rfl | rfl | rfl | rfl | rfl
      · refine gi_tableIn (off := 103) (tgt := 136) C (dm_La_law 21 rfl) (by decide) (by decide) rfl (by decide) ?_
        exact lw_s0 C hX hbV hk6 hLx hx (w0 k h hk6 hj) nx
      · refine gi_tableIn (off := 156) (tgt := 189) C (dm_La_law 21 rfl) (by decide) (by decide) rfl (by decide) ?_
        exact lw_s1 C hX hbV hk6 hLx hx (w1 k h hk6 hj) nx
      · refine gi_tableIn (off := 199) (tgt := 232) C (dm_La_law 21 rfl) (by decide) (by decide) rfl (by decide) ?_
        exact lw_s2 C hX hbV hk6 hLx hx (w2 k h hk6 hj) nx
      · refine gi_tableIn (off := 222) (tgt := 255) C (dm_La_law 21 rfl) (by decide) (by decide) rfl (by decide) ?_
        exact lw_s3 C hX hbV hk6 hLx hx (w3 k h hk6 hj) nx
      · refine gi_tableIn (off := 235) (tgt := 268) C (dm_La_law 21 rfl) (by decide) (by decide) rfl (by decide) ?_
        exact lw_s4 C hX hbV hk6 hLx hx (w4 k h hk6 hj) nx
      · refine gi_tableIn (off := 258) (tgt := 291) C (dm_La_law 21 rfl) (by decide) (by decide) rfl (by decide) ?_
        exact lw_s5 C hX hbV hk6 hLx hx (w5 k h hk6 hj) nx
      · refine gi_tableIn (off := 281) (tgt := 314) C (dm_La_law 21 rfl) (by decide) (by decide) rfl (by decide) ?_
        exact lw_s6 C hX hbV hk6 hLx hx (w6 k h hk6 hj) nx
      · refine gi_tableIn (off := 314) (tgt := 347) C (dm_La_law 21 rfl) (by decide) (by decide) rfl (by decide) ?_
        exact lw_s7 C hX hbV hk6 hLx hx (w7 k h hk6 hj) nx
      · refine gi_tableIn (off := 368) (tgt := 401) C (dm_La_law 21 rfl) (by decide) (by decide) rfl (by decide) ?_
        exact lw_s8 C hX hbV hk6 hLx hx (w8 k h hk6 hj) nx
      · refine gi_tableIn (off := 402) (tgt := 435) C (dm_La_law 21 rfl) (by decide) (by decide) rfl (by decide) ?_
        exact lw_s9 C hX hbV hk6 hLx hx (w9 k h hk6 hj) nx
      · refine gi_tableIn (off := 436) (tgt := 469) C (dm_La_law 21 rfl) (by decide) (by decide) rfl (by decide) ?_
        exact lw_s10 C hX hbV hk6 hLx hx (w10 k h hk6 hj) nx
      · refine gi_tableIn (off := 470) (tgt := 503) C (dm_La_law 21 rfl) (by decide) (by decide) rfl (by decide) ?_
        exact lw_s11 C hX hbV hk6 hLx hx (w11 k h hk6 hj) nx
      · refine gi_tableIn (off := 513) (tgt := 546) C (dm_La_law 21 rfl) (by decide) (by decide) rfl (by decide) ?_
        exact lw_s12 C hX hbV hk6 hLx hx (w12 k h hk6 hj) nx
      · refine gi_tableIn (off := 536) (tgt := 569) C (dm_La_law 21 rfl) (by decide) (by decide) rfl (by decide) ?_
        exact lw_s13 C hX hbV hk6 hLx hx (w13 k h hk6 hj) nx
      · refine gi_tableIn (off := 599) (tgt := 632) C (dm_La_law 21 rfl) (by decide) (by decide) rfl (by decide) ?_
        exact lw_s14 C hX hbV hk6 hLx hx (w14 k h hk6 hj) nx
      · refine gi_tableIn (off := 632) (tgt := 665) C (dm_La_law 21 rfl) (by decide) (by decide) rfl (by decide) ?_
        exact lw_s15 C hX hbV hk6 hLx hx (w15 k h hk6 hj) nx
      · refine gi_tableIn (off := 645) (tgt := 678) C (dm_La_law 21 rfl) (by decide) (by decide) rfl (by decide) ?_
        exact lw_s16 C hX hbV hk6 hLx hx (w16 k h hk6 hj) nx
      · refine gi_tableIn (off := 678) (tgt := 711) C (dm_La_law 21 rfl) (by decide) (by decide) rfl (by decide) ?_
        exact lw_s17 C hX hbV hk6 hLx hx (w17 k h hk6 hj) nx
      · refine gi_tableIn (off := 721) (tgt := 754) C (dm_La_law 21 rfl) (by decide) (by decide) rfl (by decide) ?_
        exact lw_s18 C hX hbV hk6 hLx hx (w18 k h hk6 hj) nx
      · refine gi_tableIn (off := 734) (tgt := 767) C (dm_La_law 21 rfl) (by decide) (by decide) rfl (by decide) ?_
        exact lw_s19 C hX hbV hk6 hLx hx (w19 k h hk6 hj) nx
      · refine gi_tableIn (off := 767) (tgt := 800) C (dm_La_law 21 rfl) (by decide) (by decide) rfl (by decide) ?_
        exact lw_s20 C hX hbV hk6 hLx hx (w20 k h hk6 hj) nx
      · refine gi_tableIn (off := 791) (tgt := 824) C (dm_La_law 21 rfl) (by decide) (by decide) rfl (by decide) ?_
        exact lw_s21 C hX hbV hk6 hLx hx (w21 k h hk6 hj) nx
end LAW
