-- needs: 89.78
section RCA
variable {l : Launch} {V : gi_V} {n : Nat} {h h' : gi_H} {M k m i : Nat} {P : Pm} {x : Sh} {sh : Nat → Option Sh} {S S' : Nat → Int32} {J J' : Nat → Int64} {F F' : Nat → Nat → Int32} {G G' : Nat → Nat → Int64} {f g : Nat → Sl} {n0 : Nat} {r : Rw} {Ff : Fa} {Z : Fa × Bool} {md p t : Nat} {S0 S1 S2 : Nat → Int32} {J0 J1 J2 : Nat → Int64} {F0 F1 F2 : Nat → Nat → Int32} {G0 G1 G2 : Nat → Nat → Int64} {y y' : gi_H} {L : Nat} {κ : (Nat → Ce) × Int32}
def loX (op : Nat) (y : Sp) : Int := if op = 20 ∨ op = 23 then y.1 else if op = 24 then y.1 + 1 else -2147483648
def hiX (op : Nat) (y : Sp) : Int := if op = 20 ∨ op = 25 then y.2.1 else if op = 22 then y.2.1 - 1 else 2147483647
def loY (op : Nat) (x : Sp) : Int := if op = 20 ∨ op = 25 then x.1 else if op = 22 then x.1 + 1 else -2147483648
def hiY (op : Nat) (x : Sp) : Int := if op = 20 ∨ op = 23 then x.2.1 else if op = 24 then x.2.1 - 1 else 2147483647
theorem nar_X {op : Nat} {x y : Sp} (h1 : 20 ≤ op) (h2 : op ≤ 25) (h : op ≠ 21) : narX op x y = withinS x (loX op y) (hiX op y) := by
  rcases (show op = 20 ∨ op = 22 ∨ op = 23 ∨ op = 24 ∨ op = 25 by omega) with e | e | e | e | e <;> subst e <;> rfl
theorem nar_Y {op : Nat} {x y : Sp} (h1 : 20 ≤ op) (h2 : op ≤ 25) (h : op ≠ 21) : narY op x y = withinS y (loY op x) (hiY op x) := by
  rcases (show op = 20 ∨ op = 22 ∨ op = 23 ∨ op = 24 ∨ op = 25 by omega) with e | e | e | e | e <;> subst e <;> rfl
theorem lo_b {op : Nat} {y : Sp} (h : okS y) : (-8589934592 ≤ loX op y ∧ loX op y ≤ 8589934592) ∧ (-8589934592 ≤ hiX op y ∧ hiX op y ≤ 8589934592) ∧ (-8589934592 ≤ loY op y ∧ loY op y ≤ 8589934592) ∧ (-8589934592 ≤ hiY op y ∧ hiY op y ≤ 8589934592) := by
  obtain ⟨h1, h2, h3, -⟩ := h
  unfold loX hiX loY hiY
  refine ⟨?_, ?_, ?_, ?_⟩ <;> (split <;> first | omega | (split <;> omega))
theorem tellF_2 {n0 i : Nat} {f : Nat → Sl} {mk : Int32} {v : Av} : (tellF n0 f mk v i).2 = (f i).2 := by
  unfold tellF
  split
  · rfl
  · dsimp only
    split <;> rfl
set_option maxHeartbeats 4000000 in
set_option maxRecDepth 100000 in
theorem cmp_4 {p : Program} {e : Env} {sg : State} {mi : MethodId} {args : Array Value} {below : List Frame} {meth : Method} {c : Code} (C : gi_C p sg mi args meth c b_Mo_compared 32 y_Mo_compared.cls V) (hr : meth.sig.returnType = none) (HW : WW M k P sh md Ff κ h S0 J0 F0 G0 Z L (n0 - 2) f S J F G y) (B : Built k P sh (siN k P sh) (wdF k P)) (hmd : md ≤ 2) {a : Nat} (hm : a < k) (hi : i < pN P 5 a) (hx : sh (60 * a + i) = some x) (hL : pN P 2 a = L) {op : Nat} (h20 : 20 ≤ op) (h25 : op ≤ 25) {X Y : Sp} (okX : okS X) (okY : okS Y) {mx my : Int32} (hmx : mx = -1 ∨ ∃ j, j < L ∧ mx = nI j) (hmy : my = -1 ∨ ∃ j, j < L ∧ my = nI j) (hloc : ∀ i, i < L → (f i).2 = -1) (hg : ∀ g, opensF op (n0 - 2) f X Y mx my = some g → tyG P a x (n0 - 2) g) {u v : Sp} (hu : narX op X Y = some u) (hv : narY op X Y = some v) (oku : okS u) (okv : okS v) : gi_G p l e { frames := 4, cells := 0, slots := 0, locals := 94 } sg mi args below meth c (MQ below (gi_Qc V (fun v n' h' => v = none ∧ n' = n ∧ spP M k P sh md Ff κ h S0 J0 F0 G0 (match opensF op (n0 - 2) f X Y mx my with | none => Z | some g => comeM md (grF (wdF k P)) Z (60 * a + i, n0 - 2, g)) h')) args sg 0 0 (fun q : Nat => V.2.2 ≤ q)) V 32 0 0 429 [(26, .long (eL v.1)), (28, .long (eL v.2.1)), (30, .long (eL v.2.2)), (20, .long (eL u.1)), (22, .long (eL u.2.1)), (24, .long (eL u.2.2)), (1, .int (nI op)), (2, .int (nI (60 * a + i))), (5, .long (eL X.1)), (7, .long (eL X.2.1)), (9, .long (eL X.2.2)), (11, .long (eL Y.1)), (13, .long (eL Y.2.1)), (15, .long (eL Y.2.2)), (17, .int mx), (18, .int my), (0, .ref M)] [] n y := by
  have H := HW.1
  obtain ⟨fs, Ha, Hf⟩ := id H.1
  have ho := HW.2.1
  obtain ⟨f1, f2, f3, f4⟩ := HW.fb
  refine gi_iload (q := 431) C (dm_Mo_compared 220 rfl) rfl rfl ?_
  refine gi_if_lt (q := 434) (tgt := 480) C (dm_Mo_compared 221 rfl) rfl (by decide) (fun c431 => ?_) (fun c431 => ?_)
  · have mm : ¬ (mx ≠ -1 ∧ mx = my) := by
      rintro ⟨q1, q2⟩
      first
        | exact c438 q2
        | (rcases hmx with q | ⟨j, hj, q⟩; exact q1 q; exact absurd c431 (by rw [q]; exact Int32.not_lt.mpr (nI_le (a := 0) (Nat.zero_le _) (by omega))))
    have op1 : opensF op (n0 - 2) f X Y mx my = some (tellF (n0 - 2) (tellF (n0 - 2) f mx (.inl u)) my (.inl v)) := by
      unfold opensF
      rw [hu, hv]
      dsimp only
      rw [if_neg mm]
    rw [op1]
    have hg := hg _ op1
    refine gi_aload_n (q := 481) (i := 0) C (dm_Mo_compared 244 rfl) rfl rfl rfl ?_
    refine gi_iload (q := 483) C (dm_Mo_compared 245 rfl) rfl rfl ?_
    refine gi_lload (q := 485) C (dm_Mo_compared 246 rfl) rfl rfl ?_
    refine gi_lload (q := 487) C (dm_Mo_compared 247 rfl) rfl rfl ?_
    refine gi_lload (q := 489) C (dm_Mo_compared 248 rfl) rfl rfl ?_
    refine gi_callv 4 (q := 492) C (dm_Mo_compared 249 rfl) rfl my_Mo_markedSpan lk_Mo_486 im_Mo_markedSpan rfl (ww_markedSpan HW u hmx hloc) Ha rfl rfl ⟨(Nat.le_of_ble_eq_true rfl), (Nat.le_of_ble_eq_true rfl)⟩ (Nat.le_of_ble_eq_true rfl) ⟨(Nat.le_of_ble_eq_true rfl), (Nat.le_of_ble_eq_true rfl)⟩ (fun r489 n489 h489 e489 => ?_)
    obtain ⟨rfl, rfl, S3, J3, F3, G3, HW3⟩ := e489
    have H := HW3.1
    obtain ⟨fs, Ha, Hf⟩ := id H.1
    have ho := HW3.2.1
    refine gi_aload_n (q := 493) (i := 0) C (dm_Mo_compared 250 rfl) rfl rfl rfl ?_
    refine gi_iload (q := 495) C (dm_Mo_compared 251 rfl) rfl rfl ?_
    refine gi_lload (q := 497) C (dm_Mo_compared 252 rfl) rfl rfl ?_
    refine gi_lload (q := 499) C (dm_Mo_compared 253 rfl) rfl rfl ?_
    refine gi_lload (q := 501) C (dm_Mo_compared 254 rfl) rfl rfl ?_
    refine gi_callv 4 (q := 504) C (dm_Mo_compared 255 rfl) rfl my_Mo_markedSpan lk_Mo_486 im_Mo_markedSpan rfl (ww_markedSpan HW3 v hmy (fun i hi => by rw [tellF_2]; exact hloc i hi)) Ha rfl rfl ⟨(Nat.le_of_ble_eq_true rfl), (Nat.le_of_ble_eq_true rfl)⟩ (Nat.le_of_ble_eq_true rfl) ⟨(Nat.le_of_ble_eq_true rfl), (Nat.le_of_ble_eq_true rfl)⟩ (fun r501 n501 h501 e501 => ?_)
    obtain ⟨rfl, rfl, S4, J4, F4, G4, HW4⟩ := e501
    have H := HW4.1
    obtain ⟨fs, Ha, Hf⟩ := id H.1
    have ho := HW4.2.1
    have HWk := HW4
    refine gi_aload_n (q := 505) (i := 0) C (dm_Mo_compared 256 rfl) rfl rfl rfl ?_
    refine gi_iload_n (q := 506) (i := 2) C (dm_Mo_compared 257 rfl) rfl rfl rfl ?_
    refine gi_callv 1 (q := 509) C (dm_Mo_compared 258 rfl) rfl my_Mo_comeTo lk_Mo_434 im_Mo_comeTo rfl (ww_comeTo HWk B hmd hm hi hx hL hg) Ha rfl rfl ⟨(Nat.le_of_ble_eq_true rfl), (Nat.le_of_ble_eq_true rfl)⟩ (Nat.le_of_ble_eq_true rfl) ⟨(Nat.le_of_ble_eq_true rfl), (Nat.le_of_ble_eq_true rfl)⟩ (fun r506 n506 h506 e506 => ?_)
    obtain ⟨rfl, rfl, S7, J7, F7, G7, HW7, fz7⟩ := e506
    have H := HW7.1
    obtain ⟨fs, Ha, Hf⟩ := id H.1
    have ho := HW7.2.1
    refine gi_vret C hr (dm_Mo_compared 259 rfl) ?_
    exact ⟨rfl, rfl, HW7.end⟩
  · refine gi_iload (q := 436) C (dm_Mo_compared 222 rfl) rfl rfl ?_
    refine gi_iload (q := 438) C (dm_Mo_compared 223 rfl) rfl rfl ?_
    refine gi_icmp_ne (q := 441) (tgt := 480) C (dm_Mo_compared 224 rfl) rfl (by decide) (fun c438 => ?_) (fun c438 => ?_)
    · have mm : ¬ (mx ≠ -1 ∧ mx = my) := by
        rintro ⟨q1, q2⟩
        first
          | exact c438 q2
          | (rcases hmx with q | ⟨j, hj, q⟩; exact q1 q; exact absurd c431 (by rw [q]; exact Int32.not_lt.mpr (nI_le (a := 0) (Nat.zero_le _) (by omega))))
      have op1 : opensF op (n0 - 2) f X Y mx my = some (tellF (n0 - 2) (tellF (n0 - 2) f mx (.inl u)) my (.inl v)) := by
        unfold opensF
        rw [hu, hv]
        dsimp only
        rw [if_neg mm]
      rw [op1]
      have hg := hg _ op1
      refine gi_aload_n (q := 481) (i := 0) C (dm_Mo_compared 244 rfl) rfl rfl rfl ?_
      refine gi_iload (q := 483) C (dm_Mo_compared 245 rfl) rfl rfl ?_
      refine gi_lload (q := 485) C (dm_Mo_compared 246 rfl) rfl rfl ?_
      refine gi_lload (q := 487) C (dm_Mo_compared 247 rfl) rfl rfl ?_
      refine gi_lload (q := 489) C (dm_Mo_compared 248 rfl) rfl rfl ?_
      refine gi_callv 4 (q := 492) C (dm_Mo_compared 249 rfl) rfl my_Mo_markedSpan lk_Mo_486 im_Mo_markedSpan rfl (ww_markedSpan HW u hmx hloc) Ha rfl rfl ⟨(Nat.le_of_ble_eq_true rfl), (Nat.le_of_ble_eq_true rfl)⟩ (Nat.le_of_ble_eq_true rfl) ⟨(Nat.le_of_ble_eq_true rfl), (Nat.le_of_ble_eq_true rfl)⟩ (fun r489 n489 h489 e489 => ?_)
      obtain ⟨rfl, rfl, S3, J3, F3, G3, HW3⟩ := e489
      have H := HW3.1
      obtain ⟨fs, Ha, Hf⟩ := id H.1
      have ho := HW3.2.1
      refine gi_aload_n (q := 493) (i := 0) C (dm_Mo_compared 250 rfl) rfl rfl rfl ?_
      refine gi_iload (q := 495) C (dm_Mo_compared 251 rfl) rfl rfl ?_
      refine gi_lload (q := 497) C (dm_Mo_compared 252 rfl) rfl rfl ?_
      refine gi_lload (q := 499) C (dm_Mo_compared 253 rfl) rfl rfl ?_
      refine gi_lload (q := 501) C (dm_Mo_compared 254 rfl) rfl rfl ?_
      refine gi_callv 4 (q := 504) C (dm_Mo_compared 255 rfl) rfl my_Mo_markedSpan lk_Mo_486 im_Mo_markedSpan rfl (ww_markedSpan HW3 v hmy (fun i hi => by rw [tellF_2]; exact hloc i hi)) Ha rfl rfl ⟨(Nat.le_of_ble_eq_true rfl), (Nat.le_of_ble_eq_true rfl)⟩ (Nat.le_of_ble_eq_true rfl) ⟨(Nat.le_of_ble_eq_true rfl), (Nat.le_of_ble_eq_true rfl)⟩ (fun r501 n501 h501 e501 => ?_)
      obtain ⟨rfl, rfl, S4, J4, F4, G4, HW4⟩ := e501
      have H := HW4.1
      obtain ⟨fs, Ha, Hf⟩ := id H.1
      have ho := HW4.2.1
      have HWk := HW4
      refine gi_aload_n (q := 505) (i := 0) C (dm_Mo_compared 256 rfl) rfl rfl rfl ?_
      refine gi_iload_n (q := 506) (i := 2) C (dm_Mo_compared 257 rfl) rfl rfl rfl ?_
      refine gi_callv 1 (q := 509) C (dm_Mo_compared 258 rfl) rfl my_Mo_comeTo lk_Mo_434 im_Mo_comeTo rfl (ww_comeTo HWk B hmd hm hi hx hL hg) Ha rfl rfl ⟨(Nat.le_of_ble_eq_true rfl), (Nat.le_of_ble_eq_true rfl)⟩ (Nat.le_of_ble_eq_true rfl) ⟨(Nat.le_of_ble_eq_true rfl), (Nat.le_of_ble_eq_true rfl)⟩ (fun r506 n506 h506 e506 => ?_)
      obtain ⟨rfl, rfl, S7, J7, F7, G7, HW7, fz7⟩ := e506
      have H := HW7.1
      obtain ⟨fs, Ha, Hf⟩ := id H.1
      have ho := HW7.2.1
      refine gi_vret C hr (dm_Mo_compared 259 rfl) ?_
      exact ⟨rfl, rfl, HW7.end⟩
    · have mm : mx ≠ -1 ∧ mx = my := ⟨fun q => c431 (by rw [q]; decide), c438⟩
      obtain ⟨v1, v2, v3, -⟩ := id okv
      refine gi_aload_n (q := 442) (i := 0) C (dm_Mo_compared 225 rfl) rfl rfl rfl ?_
      refine gi_lload (q := 444) C (dm_Mo_compared 226 rfl) rfl rfl ?_
      refine gi_lload (q := 446) C (dm_Mo_compared 227 rfl) rfl rfl ?_
      refine gi_lload (q := 448) C (dm_Mo_compared 228 rfl) rfl rfl ?_
      refine gi_lload (q := 450) C (dm_Mo_compared 229 rfl) rfl rfl ?_
      refine gi_lload (q := 452) C (dm_Mo_compared 230 rfl) rfl rfl ?_
      refine gi_callv 5 (q := 455) C (dm_Mo_compared 231 rfl) rfl my_Mo_within lk_Mo_317 im_Mo_within rfl (ww_within HW u v.1 v.2.1 oku (by omega) (by omega) (by omega) (by omega)) Ha rfl rfl ⟨(Nat.le_of_ble_eq_true rfl), (Nat.le_of_ble_eq_true rfl)⟩ (Nat.le_of_ble_eq_true rfl) ⟨(Nat.le_of_ble_eq_true rfl), (Nat.le_of_ble_eq_true rfl)⟩ (fun r452 n452 h452 e452 => ?_)
      obtain ⟨rfl, rfl, S2, J2, HW2, rs2⟩ := e452
      have H := HW2.1
      obtain ⟨fs, Ha, Hf⟩ := id H.1
      have ho := HW2.2.1
      refine gi_if_ne (q := 458) (tgt := 459) C (dm_Mo_compared 232 rfl) rfl (by decide) (fun c455 => ?_) (fun c455 => ?_)
      · obtain ⟨z, ez⟩ : ∃ z, withinS u v.1 v.2.1 = some z := Option.isSome_iff_exists.mp (bI_t c455)
        have rs2 := rsJ (rs2 _ ez)
        have op1 : opensF op (n0 - 2) f X Y mx my = some (tellF (n0 - 2) f mx (.inl z)) := by
          unfold opensF
          rw [hu, hv]
          dsimp only
          rw [if_pos mm, ez]
        rw [op1]
        have hg := hg _ op1
        refine gi_aload_n (q := 460) (i := 0) C (dm_Mo_compared 234 rfl) rfl rfl rfl ?_
        refine gi_iload (q := 462) C (dm_Mo_compared 235 rfl) rfl rfl ?_
        refine gi_aload_n (q := 463) (i := 0) C (dm_Mo_compared 236 rfl) rfl rfl rfl ?_
        refine gi_get (q := 466) C (dm_Mo_compared 237 rfl) rfl fl_Mo_242 Ha (mo_g22 Hf) ?_
        refine gi_aload_n (q := 467) (i := 0) C (dm_Mo_compared 238 rfl) rfl rfl rfl ?_
        refine gi_get (q := 470) C (dm_Mo_compared 239 rfl) rfl fl_Mo_246 Ha (mo_g23 Hf) ?_
        refine gi_aload_n (q := 471) (i := 0) C (dm_Mo_compared 240 rfl) rfl rfl rfl ?_
        refine gi_get (q := 474) C (dm_Mo_compared 241 rfl) rfl fl_Mo_249 Ha (mo_g24 Hf) ?_
        rw [rs2.1, rs2.2.1, rs2.2.2]
        refine gi_callv 4 (q := 477) C (dm_Mo_compared 242 rfl) rfl my_Mo_markedSpan lk_Mo_486 im_Mo_markedSpan rfl (ww_markedSpan HW2 z hmx hloc) Ha rfl rfl ⟨(Nat.le_of_ble_eq_true rfl), (Nat.le_of_ble_eq_true rfl)⟩ (Nat.le_of_ble_eq_true rfl) ⟨(Nat.le_of_ble_eq_true rfl), (Nat.le_of_ble_eq_true rfl)⟩ (fun r474 n474 h474 e474 => ?_)
        obtain ⟨rfl, rfl, S3, J3, F3, G3, HW3⟩ := e474
        have H := HW3.1
        obtain ⟨fs, Ha, Hf⟩ := id H.1
        have ho := HW3.2.1
        have HWk := HW3
        refine gi_goto (tgt := 504) C (dm_Mo_compared 243 rfl) (by decide) ?_
        refine gi_aload_n (q := 505) (i := 0) C (dm_Mo_compared 256 rfl) rfl rfl rfl ?_
        refine gi_iload_n (q := 506) (i := 2) C (dm_Mo_compared 257 rfl) rfl rfl rfl ?_
        refine gi_callv 1 (q := 509) C (dm_Mo_compared 258 rfl) rfl my_Mo_comeTo lk_Mo_434 im_Mo_comeTo rfl (ww_comeTo HWk B hmd hm hi hx hL hg) Ha rfl rfl ⟨(Nat.le_of_ble_eq_true rfl), (Nat.le_of_ble_eq_true rfl)⟩ (Nat.le_of_ble_eq_true rfl) ⟨(Nat.le_of_ble_eq_true rfl), (Nat.le_of_ble_eq_true rfl)⟩ (fun r506 n506 h506 e506 => ?_)
        obtain ⟨rfl, rfl, S7, J7, F7, G7, HW7, fz7⟩ := e506
        have H := HW7.1
        obtain ⟨fs, Ha, Hf⟩ := id H.1
        have ho := HW7.2.1
        refine gi_vret C hr (dm_Mo_compared 259 rfl) ?_
        exact ⟨rfl, rfl, HW7.end⟩
      · refine gi_vret C hr (dm_Mo_compared 233 rfl) ?_
        have en : withinS u v.1 v.2.1 = none := by
          cases e9 : withinS u v.1 v.2.1 with
          | none => rfl
          | some u9 => rw [e9] at c455; exact absurd (bI_fa c455) (by simp)
        have op1 : opensF op (n0 - 2) f X Y mx my = none := by
          unfold opensF
          rw [hu, hv]
          dsimp only
          rw [if_pos mm, en]
        rw [op1]
        exact ⟨rfl, rfl, HW2.end⟩
set_option maxHeartbeats 4000000 in
set_option maxRecDepth 100000 in
theorem cmp_3 {p : Program} {e : Env} {sg : State} {mi : MethodId} {args : Array Value} {below : List Frame} {meth : Method} {c : Code} (C : gi_C p sg mi args meth c b_Mo_compared 32 y_Mo_compared.cls V) (hr : meth.sig.returnType = none) (HW : WW M k P sh md Ff κ h S0 J0 F0 G0 Z L (n0 - 2) f S J F G y) (B : Built k P sh (siN k P sh) (wdF k P)) (hmd : md ≤ 2) {a : Nat} (hm : a < k) (hi : i < pN P 5 a) (hx : sh (60 * a + i) = some x) (hL : pN P 2 a = L) {op : Nat} (h20 : 20 ≤ op) (h25 : op ≤ 25) {X Y : Sp} (okX : okS X) (okY : okS Y) {mx my : Int32} (hmx : mx = -1 ∨ ∃ j, j < L ∧ mx = nI j) (hmy : my = -1 ∨ ∃ j, j < L ∧ my = nI j) (hloc : ∀ i, i < L → (f i).2 = -1) (hg : ∀ g, opensF op (n0 - 2) f X Y mx my = some g → tyG P a x (n0 - 2) g) {u v : Sp} (hu : narX op X Y = some u) (hv : narY op X Y = some v) (oku : okS u) (rs : J 22 = eL v.1 ∧ J 23 = eL v.2.1 ∧ J 24 = eL v.2.2) : gi_G p l e { frames := 4, cells := 0, slots := 0, locals := 94 } sg mi args below meth c (MQ below (gi_Qc V (fun v n' h' => v = none ∧ n' = n ∧ spP M k P sh md Ff κ h S0 J0 F0 G0 (match opensF op (n0 - 2) f X Y mx my with | none => Z | some g => comeM md (grF (wdF k P)) Z (60 * a + i, n0 - 2, g)) h')) args sg 0 0 (fun q : Nat => V.2.2 ≤ q)) V 32 0 0 411 [(20, .long (eL u.1)), (22, .long (eL u.2.1)), (24, .long (eL u.2.2)), (1, .int (nI op)), (2, .int (nI (60 * a + i))), (5, .long (eL X.1)), (7, .long (eL X.2.1)), (9, .long (eL X.2.2)), (11, .long (eL Y.1)), (13, .long (eL Y.2.1)), (15, .long (eL Y.2.2)), (17, .int mx), (18, .int my), (0, .ref M)] [] n y := by
  have H := HW.1
  obtain ⟨fs, Ha, Hf⟩ := id H.1
  have ho := HW.2.1
  obtain ⟨f1, f2, f3, f4⟩ := HW.fb
  refine gi_aload_n (q := 412) (i := 0) C (dm_Mo_compared 211 rfl) rfl rfl rfl ?_
  refine gi_get (q := 415) C (dm_Mo_compared 212 rfl) rfl fl_Mo_242 Ha (mo_g22 Hf) ?_
  rw [rs.1]
  refine gi_lstore (q := 417) C (dm_Mo_compared 213 rfl) rfl (Nat.le_of_ble_eq_true rfl) ?_
  refine gi_aload_n (q := 418) (i := 0) C (dm_Mo_compared 214 rfl) rfl rfl rfl ?_
  refine gi_get (q := 421) C (dm_Mo_compared 215 rfl) rfl fl_Mo_246 Ha (mo_g23 Hf) ?_
  rw [rs.2.1]
  refine gi_lstore (q := 423) C (dm_Mo_compared 216 rfl) rfl (Nat.le_of_ble_eq_true rfl) ?_
  refine gi_aload_n (q := 424) (i := 0) C (dm_Mo_compared 217 rfl) rfl rfl rfl ?_
  refine gi_get (q := 427) C (dm_Mo_compared 218 rfl) rfl fl_Mo_249 Ha (mo_g24 Hf) ?_
  rw [rs.2.2]
  refine gi_lstore (q := 429) C (dm_Mo_compared 219 rfl) rfl (Nat.le_of_ble_eq_true rfl) ?_
  refine gi_close (cmp_4 C hr HW B hmd hm hi hx hL h20 h25 okX okY hmx hmy hloc hg hu hv oku (narY_ok okY hv)) (List.forall_mem_cons.mpr ⟨rfl, List.forall_mem_cons.mpr ⟨rfl, List.forall_mem_cons.mpr ⟨rfl, List.forall_mem_cons.mpr ⟨rfl, List.forall_mem_cons.mpr ⟨rfl, List.forall_mem_cons.mpr ⟨rfl, List.forall_mem_cons.mpr ⟨rfl, List.forall_mem_cons.mpr ⟨rfl, List.forall_mem_cons.mpr ⟨rfl, List.forall_mem_cons.mpr ⟨rfl, List.forall_mem_cons.mpr ⟨rfl, List.forall_mem_cons.mpr ⟨rfl, List.forall_mem_cons.mpr ⟨rfl, List.forall_mem_cons.mpr ⟨rfl, List.forall_mem_cons.mpr ⟨rfl, List.forall_mem_cons.mpr ⟨rfl, List.forall_mem_cons.mpr ⟨rfl, fun _ h => absurd h List.not_mem_nil⟩⟩⟩⟩⟩⟩⟩⟩⟩⟩⟩⟩⟩⟩⟩⟩⟩) rfl rfl rfl
set_option maxHeartbeats 4000000 in
set_option maxRecDepth 100000 in
theorem opens_x {op n0 : Nat} {f : Nat → Sl} {X Y : Sp} {mx my : Int32} (h : narX op X Y = none) : opensF op n0 f X Y mx my = none := by
  unfold opensF
  rw [h]
set_option maxHeartbeats 4000000 in
set_option maxRecDepth 100000 in
theorem opens_y {op n0 : Nat} {f : Nat → Sl} {X Y : Sp} {mx my : Int32} (h : narY op X Y = none) : opensF op n0 f X Y mx my = none := by
  unfold opensF
  rw [h]
  cases narX op X Y <;> rfl
set_option maxHeartbeats 4000000 in
set_option maxRecDepth 100000 in
theorem cmp_2b {p : Program} {e : Env} {sg : State} {mi : MethodId} {args : Array Value} {below : List Frame} {meth : Method} {c : Code} (C : gi_C p sg mi args meth c b_Mo_compared 32 y_Mo_compared.cls V) (hr : meth.sig.returnType = none) (HW : WW M k P sh md Ff κ h S0 J0 F0 G0 Z L (n0 - 2) f S J F G y) (B : Built k P sh (siN k P sh) (wdF k P)) (hmd : md ≤ 2) {a : Nat} (hm : a < k) (hi : i < pN P 5 a) (hx : sh (60 * a + i) = some x) (hL : pN P 2 a = L) {op : Nat} (h20 : 20 ≤ op) (h25 : op ≤ 25) {X Y : Sp} (okX : okS X) (okY : okS Y) {mx my : Int32} (hmx : mx = -1 ∨ ∃ j, j < L ∧ mx = nI j) (hmy : my = -1 ∨ ∃ j, j < L ∧ my = nI j) (hloc : ∀ i, i < L → (f i).2 = -1) (hg : ∀ g, opensF op (n0 - 2) f X Y mx my = some g → tyG P a x (n0 - 2) g) {u : Sp} (hu : narX op X Y = some u) (oku : okS u) : gi_G p l e { frames := 4, cells := 0, slots := 0, locals := 94 } sg mi args below meth c (MQ below (gi_Qc V (fun v n' h' => v = none ∧ n' = n ∧ spP M k P sh md Ff κ h S0 J0 F0 G0 (match opensF op (n0 - 2) f X Y mx my with | none => Z | some g => comeM md (grF (wdF k P)) Z (60 * a + i, n0 - 2, g)) h')) args sg 0 0 (fun q : Nat => V.2.2 ≤ q)) V 32 0 0 260 [(20, .long (eL u.1)), (22, .long (eL u.2.1)), (24, .long (eL u.2.2)), (1, .int (nI op)), (2, .int (nI (60 * a + i))), (5, .long (eL X.1)), (7, .long (eL X.2.1)), (9, .long (eL X.2.2)), (11, .long (eL Y.1)), (13, .long (eL Y.2.1)), (15, .long (eL Y.2.2)), (17, .int mx), (18, .int my), (0, .ref M)] [] n y := by
  have H := HW.1
  obtain ⟨fs, Ha, Hf⟩ := id H.1
  have ho := HW.2.1
  obtain ⟨f1, f2, f3, f4⟩ := HW.fb
  refine gi_iload_n (q := 261) (i := 1) C (dm_Mo_compared 137 rfl) rfl rfl rfl ?_
  refine gi_bipush (q := 263) (v := 21) C (dm_Mo_compared 138 rfl) rfl (by decide) ?_
  refine gi_icmp_ne (q := 266) (tgt := 323) C (dm_Mo_compared 139 rfl) rfl (by decide) (fun c263 => ?_) (fun c263 => ?_)
  · have o21 : ¬ op = 21 := by
      have q := c263
      rw [show (21 : Int32) = nI 21 from rfl, nI_eqP (by omega) (by decide)] at q
      exact q
    have lb : (-8589934592 ≤ loY op X ∧ loY op X ≤ 8589934592) ∧ (-8589934592 ≤ hiY op X ∧ hiY op X ≤ 8589934592) := ⟨(lo_b (op := op) okX).2.2.1, (lo_b (op := op) okX).2.2.2⟩
    refine gi_meet (σ := Unit) 356 (fun _ => [(20, .long (eL u.1)), (22, .long (eL u.2.1)), (24, .long (eL u.2.2)), (1, .int (nI op)), (2, .int (nI (60 * a + i))), (5, .long (eL X.1)), (7, .long (eL X.2.1)), (9, .long (eL X.2.2)), (11, .long (eL Y.1)), (13, .long (eL Y.2.1)), (15, .long (eL Y.2.2)), (17, .int mx), (18, .int my), (0, .ref M)]) (fun _ => [.long (eL (loY op X))]) (fun _ y9 => y = y9) ?_ (fun hJa => ?_)
    · rintro - _ rfl
      refine gi_lstore (q := 358) C (dm_Mo_compared 184 rfl) rfl (Nat.le_of_ble_eq_true rfl) ?_
      refine gi_meet (σ := Unit) 391 (fun _ => [(26, .long (eL (loY op X))), (20, .long (eL u.1)), (22, .long (eL u.2.1)), (24, .long (eL u.2.2)), (1, .int (nI op)), (2, .int (nI (60 * a + i))), (5, .long (eL X.1)), (7, .long (eL X.2.1)), (9, .long (eL X.2.2)), (11, .long (eL Y.1)), (13, .long (eL Y.2.1)), (15, .long (eL Y.2.2)), (17, .int mx), (18, .int my), (0, .ref M)]) (fun _ => [.long (eL (hiY op X))]) (fun _ y9 => y = y9) ?_ (fun hJb => ?_)
      · rintro - _ rfl
        refine gi_lstore (q := 393) C (dm_Mo_compared 201 rfl) rfl (Nat.le_of_ble_eq_true rfl) ?_
        refine gi_aload_n (q := 394) (i := 0) C (dm_Mo_compared 202 rfl) rfl rfl rfl ?_
        refine gi_lload (q := 396) C (dm_Mo_compared 203 rfl) rfl rfl ?_
        refine gi_lload (q := 398) C (dm_Mo_compared 204 rfl) rfl rfl ?_
        refine gi_lload (q := 400) C (dm_Mo_compared 205 rfl) rfl rfl ?_
        refine gi_lload (q := 402) C (dm_Mo_compared 206 rfl) rfl rfl ?_
        refine gi_lload (q := 404) C (dm_Mo_compared 207 rfl) rfl rfl ?_
        refine gi_callv 5 (q := 407) C (dm_Mo_compared 208 rfl) rfl my_Mo_within lk_Mo_317 im_Mo_within rfl (ww_within HW Y (loY op X) (hiY op X) okY lb.1.1 lb.1.2 lb.2.1 lb.2.2) Ha rfl rfl ⟨(Nat.le_of_ble_eq_true rfl), (Nat.le_of_ble_eq_true rfl)⟩ (Nat.le_of_ble_eq_true rfl) ⟨(Nat.le_of_ble_eq_true rfl), (Nat.le_of_ble_eq_true rfl)⟩ (fun r404 n404 h404 e404 => ?_)
        obtain ⟨rfl, rfl, S2, J2, HW2, rs2⟩ := e404
        have H := HW2.1
        obtain ⟨fs, Ha, Hf⟩ := id H.1
        have ho := HW2.2.1
        refine gi_if_ne (q := 410) (tgt := 411) C (dm_Mo_compared 209 rfl) rfl (by decide) (fun c407 => ?_) (fun c407 => ?_)
        · obtain ⟨z, ez⟩ : ∃ z, withinS Y (loY op X) (hiY op X) = some z := Option.isSome_iff_exists.mp (bI_t c407)
          have rs9 := rsJ (rs2 _ ez)
          refine gi_close (cmp_3 C hr HW2 B hmd hm hi hx hL h20 h25 okX okY hmx hmy hloc hg hu (show narY op X Y = some z from by rw [nar_Y h20 h25 o21]; exact ez) oku rs9) (List.forall_mem_cons.mpr ⟨rfl, List.forall_mem_cons.mpr ⟨rfl, List.forall_mem_cons.mpr ⟨rfl, List.forall_mem_cons.mpr ⟨rfl, List.forall_mem_cons.mpr ⟨rfl, List.forall_mem_cons.mpr ⟨rfl, List.forall_mem_cons.mpr ⟨rfl, List.forall_mem_cons.mpr ⟨rfl, List.forall_mem_cons.mpr ⟨rfl, List.forall_mem_cons.mpr ⟨rfl, List.forall_mem_cons.mpr ⟨rfl, List.forall_mem_cons.mpr ⟨rfl, List.forall_mem_cons.mpr ⟨rfl, List.forall_mem_cons.mpr ⟨rfl, fun _ h => absurd h List.not_mem_nil⟩⟩⟩⟩⟩⟩⟩⟩⟩⟩⟩⟩⟩⟩) rfl rfl rfl
        · refine gi_vret C hr (dm_Mo_compared 210 rfl) ?_
          have en : withinS Y (loY op X) (hiY op X) = none := by
            cases e9 : withinS Y (loY op X) (hiY op X) with
            | none => rfl
            | some u9 => rw [e9] at c407; exact absurd (bI_fa c407) (by simp)
          have en : narY op X Y = none := by rw [nar_Y h20 h25 o21]; exact en
          rw [opens_y en]
          exact ⟨rfl, rfl, HW2.end⟩
      · refine gi_iload_n (q := 359) (i := 1) C (dm_Mo_compared 185 rfl) rfl rfl rfl ?_
        refine gi_bipush (q := 361) (v := 20) C (dm_Mo_compared 186 rfl) rfl (by decide) ?_
        refine gi_icmp_eq (q := 364) (tgt := 370) C (dm_Mo_compared 187 rfl) rfl (by decide) (fun c361 => ?_) (fun c361 => ?_)
        · refine gi_lload (q := 372) C (dm_Mo_compared 191 rfl) rfl rfl ?_
          refine gi_goto (tgt := 391) C (dm_Mo_compared 192 rfl) (by decide) ?_
          have q192 := c361
          rw [show (20 : Int32) = nI 20 from rfl, nI_eqP (by omega) (by decide)] at q192
          have ev : hiY op X = X.2.1 := by
            unfold hiY
            rw [if_pos (Or.inl q192)]
          have q9 := hJb () _ rfl
          rw [ev] at q9
          exact gi_close q9 (List.forall_mem_cons.mpr ⟨rfl, List.forall_mem_cons.mpr ⟨rfl, List.forall_mem_cons.mpr ⟨rfl, List.forall_mem_cons.mpr ⟨rfl, List.forall_mem_cons.mpr ⟨rfl, List.forall_mem_cons.mpr ⟨rfl, List.forall_mem_cons.mpr ⟨rfl, List.forall_mem_cons.mpr ⟨rfl, List.forall_mem_cons.mpr ⟨rfl, List.forall_mem_cons.mpr ⟨rfl, List.forall_mem_cons.mpr ⟨rfl, List.forall_mem_cons.mpr ⟨rfl, List.forall_mem_cons.mpr ⟨rfl, List.forall_mem_cons.mpr ⟨rfl, List.forall_mem_cons.mpr ⟨rfl, fun _ h => absurd h List.not_mem_nil⟩⟩⟩⟩⟩⟩⟩⟩⟩⟩⟩⟩⟩⟩⟩) rfl rfl rfl
        · refine gi_iload_n (q := 365) (i := 1) C (dm_Mo_compared 188 rfl) rfl rfl rfl ?_
          refine gi_bipush (q := 367) (v := 23) C (dm_Mo_compared 189 rfl) rfl (by decide) ?_
          refine gi_icmp_ne (q := 370) (tgt := 375) C (dm_Mo_compared 190 rfl) rfl (by decide) (fun c367 => ?_) (fun c367 => ?_)
          · refine gi_iload_n (q := 376) (i := 1) C (dm_Mo_compared 193 rfl) rfl rfl rfl ?_
            refine gi_bipush (q := 378) (v := 24) C (dm_Mo_compared 194 rfl) rfl (by decide) ?_
            refine gi_icmp_ne (q := 381) (tgt := 388) C (dm_Mo_compared 195 rfl) rfl (by decide) (fun c378 => ?_) (fun c378 => ?_)
            · refine gi_ldc2 (q := 391) C (dm_Mo_compared 200 rfl) rfl kc_Mo_280 ?_
              have q192 := c361
              rw [show (20 : Int32) = nI 20 from rfl, nI_eqP (by omega) (by decide)] at q192
              have q198 := c367
              rw [show (23 : Int32) = nI 23 from rfl, nI_eqP (by omega) (by decide)] at q198
              have q209 := c378
              rw [show (24 : Int32) = nI 24 from rfl, nI_eqP (by omega) (by decide)] at q209
              have ev : hiY op X = 2147483647 := by
                unfold hiY
                rw [if_neg (fun z => z.elim q192 q198), if_neg q209]
              rw [show (2147483647 : Int64) = eL (2147483647) from rfl]
              have q9 := hJb () _ rfl
              rw [ev] at q9
              exact gi_close q9 (List.forall_mem_cons.mpr ⟨rfl, List.forall_mem_cons.mpr ⟨rfl, List.forall_mem_cons.mpr ⟨rfl, List.forall_mem_cons.mpr ⟨rfl, List.forall_mem_cons.mpr ⟨rfl, List.forall_mem_cons.mpr ⟨rfl, List.forall_mem_cons.mpr ⟨rfl, List.forall_mem_cons.mpr ⟨rfl, List.forall_mem_cons.mpr ⟨rfl, List.forall_mem_cons.mpr ⟨rfl, List.forall_mem_cons.mpr ⟨rfl, List.forall_mem_cons.mpr ⟨rfl, List.forall_mem_cons.mpr ⟨rfl, List.forall_mem_cons.mpr ⟨rfl, List.forall_mem_cons.mpr ⟨rfl, fun _ h => absurd h List.not_mem_nil⟩⟩⟩⟩⟩⟩⟩⟩⟩⟩⟩⟩⟩⟩⟩) rfl rfl rfl
            · refine gi_lload (q := 383) C (dm_Mo_compared 196 rfl) rfl rfl ?_
              refine gi_lconst (q := 384) (v := 1) C (dm_Mo_compared 197 rfl) rfl (by decide) ?_
              refine gi_lsub (q := 385) C (dm_Mo_compared 198 rfl) rfl ?_
              refine gi_goto (tgt := 391) C (dm_Mo_compared 199 rfl) (by decide) ?_
              have q192 := c361
              rw [show (20 : Int32) = nI 20 from rfl, nI_eqP (by omega) (by decide)] at q192
              have q198 := c367
              rw [show (23 : Int32) = nI 23 from rfl, nI_eqP (by omega) (by decide)] at q198
              have q209 := c378
              rw [show (24 : Int32) = nI 24 from rfl, nI_eqP (by omega) (by decide)] at q209
              have ev : hiY op X = X.2.1 - 1 := by
                unfold hiY
                rw [if_neg (fun z => z.elim q192 q198), if_pos q209]
              rw [show (1 : Int64) = eL 1 from rfl, eL_sub]
              have q9 := hJb () _ rfl
              rw [ev] at q9
              exact gi_close q9 (List.forall_mem_cons.mpr ⟨rfl, List.forall_mem_cons.mpr ⟨rfl, List.forall_mem_cons.mpr ⟨rfl, List.forall_mem_cons.mpr ⟨rfl, List.forall_mem_cons.mpr ⟨rfl, List.forall_mem_cons.mpr ⟨rfl, List.forall_mem_cons.mpr ⟨rfl, List.forall_mem_cons.mpr ⟨rfl, List.forall_mem_cons.mpr ⟨rfl, List.forall_mem_cons.mpr ⟨rfl, List.forall_mem_cons.mpr ⟨rfl, List.forall_mem_cons.mpr ⟨rfl, List.forall_mem_cons.mpr ⟨rfl, List.forall_mem_cons.mpr ⟨rfl, List.forall_mem_cons.mpr ⟨rfl, fun _ h => absurd h List.not_mem_nil⟩⟩⟩⟩⟩⟩⟩⟩⟩⟩⟩⟩⟩⟩⟩) rfl rfl rfl
          · refine gi_lload (q := 372) C (dm_Mo_compared 191 rfl) rfl rfl ?_
            refine gi_goto (tgt := 391) C (dm_Mo_compared 192 rfl) (by decide) ?_
            have q192 := c361
            rw [show (20 : Int32) = nI 20 from rfl, nI_eqP (by omega) (by decide)] at q192
            have q198 := c367
            rw [show (23 : Int32) = nI 23 from rfl, nI_eqP (by omega) (by decide)] at q198
            have ev : hiY op X = X.2.1 := by
              unfold hiY
              rw [if_pos (Or.inr q198)]
            have q9 := hJb () _ rfl
            rw [ev] at q9
            exact gi_close q9 (List.forall_mem_cons.mpr ⟨rfl, List.forall_mem_cons.mpr ⟨rfl, List.forall_mem_cons.mpr ⟨rfl, List.forall_mem_cons.mpr ⟨rfl, List.forall_mem_cons.mpr ⟨rfl, List.forall_mem_cons.mpr ⟨rfl, List.forall_mem_cons.mpr ⟨rfl, List.forall_mem_cons.mpr ⟨rfl, List.forall_mem_cons.mpr ⟨rfl, List.forall_mem_cons.mpr ⟨rfl, List.forall_mem_cons.mpr ⟨rfl, List.forall_mem_cons.mpr ⟨rfl, List.forall_mem_cons.mpr ⟨rfl, List.forall_mem_cons.mpr ⟨rfl, List.forall_mem_cons.mpr ⟨rfl, fun _ h => absurd h List.not_mem_nil⟩⟩⟩⟩⟩⟩⟩⟩⟩⟩⟩⟩⟩⟩⟩) rfl rfl rfl
    · refine gi_iload_n (q := 324) (i := 1) C (dm_Mo_compared 168 rfl) rfl rfl rfl ?_
      refine gi_bipush (q := 326) (v := 20) C (dm_Mo_compared 169 rfl) rfl (by decide) ?_
      refine gi_icmp_eq (q := 329) (tgt := 335) C (dm_Mo_compared 170 rfl) rfl (by decide) (fun c326 => ?_) (fun c326 => ?_)
      · refine gi_lload (q := 337) C (dm_Mo_compared 174 rfl) rfl rfl ?_
        refine gi_goto (tgt := 356) C (dm_Mo_compared 175 rfl) (by decide) ?_
        have q157 := c326
        rw [show (20 : Int32) = nI 20 from rfl, nI_eqP (by omega) (by decide)] at q157
        have ev : loY op X = X.1 := by
          unfold loY
          rw [if_pos (Or.inl q157)]
        have q9 := hJa () _ rfl
        rw [ev] at q9
        exact gi_close q9 (List.forall_mem_cons.mpr ⟨rfl, List.forall_mem_cons.mpr ⟨rfl, List.forall_mem_cons.mpr ⟨rfl, List.forall_mem_cons.mpr ⟨rfl, List.forall_mem_cons.mpr ⟨rfl, List.forall_mem_cons.mpr ⟨rfl, List.forall_mem_cons.mpr ⟨rfl, List.forall_mem_cons.mpr ⟨rfl, List.forall_mem_cons.mpr ⟨rfl, List.forall_mem_cons.mpr ⟨rfl, List.forall_mem_cons.mpr ⟨rfl, List.forall_mem_cons.mpr ⟨rfl, List.forall_mem_cons.mpr ⟨rfl, List.forall_mem_cons.mpr ⟨rfl, fun _ h => absurd h List.not_mem_nil⟩⟩⟩⟩⟩⟩⟩⟩⟩⟩⟩⟩⟩⟩) rfl rfl rfl
      · refine gi_iload_n (q := 330) (i := 1) C (dm_Mo_compared 171 rfl) rfl rfl rfl ?_
        refine gi_bipush (q := 332) (v := 25) C (dm_Mo_compared 172 rfl) rfl (by decide) ?_
        refine gi_icmp_ne (q := 335) (tgt := 340) C (dm_Mo_compared 173 rfl) rfl (by decide) (fun c332 => ?_) (fun c332 => ?_)
        · refine gi_iload_n (q := 341) (i := 1) C (dm_Mo_compared 176 rfl) rfl rfl rfl ?_
          refine gi_bipush (q := 343) (v := 22) C (dm_Mo_compared 177 rfl) rfl (by decide) ?_
          refine gi_icmp_ne (q := 346) (tgt := 353) C (dm_Mo_compared 178 rfl) rfl (by decide) (fun c343 => ?_) (fun c343 => ?_)
          · refine gi_ldc2 (q := 356) C (dm_Mo_compared 183 rfl) rfl kc_Mo_273 ?_
            have q157 := c326
            rw [show (20 : Int32) = nI 20 from rfl, nI_eqP (by omega) (by decide)] at q157
            have q163 := c332
            rw [show (25 : Int32) = nI 25 from rfl, nI_eqP (by omega) (by decide)] at q163
            have q174 := c343
            rw [show (22 : Int32) = nI 22 from rfl, nI_eqP (by omega) (by decide)] at q174
            have ev : loY op X = -2147483648 := by
              unfold loY
              rw [if_neg (fun z => z.elim q157 q163), if_neg q174]
            rw [show (-2147483648 : Int64) = eL (-2147483648) from rfl]
            have q9 := hJa () _ rfl
            rw [ev] at q9
            exact gi_close q9 (List.forall_mem_cons.mpr ⟨rfl, List.forall_mem_cons.mpr ⟨rfl, List.forall_mem_cons.mpr ⟨rfl, List.forall_mem_cons.mpr ⟨rfl, List.forall_mem_cons.mpr ⟨rfl, List.forall_mem_cons.mpr ⟨rfl, List.forall_mem_cons.mpr ⟨rfl, List.forall_mem_cons.mpr ⟨rfl, List.forall_mem_cons.mpr ⟨rfl, List.forall_mem_cons.mpr ⟨rfl, List.forall_mem_cons.mpr ⟨rfl, List.forall_mem_cons.mpr ⟨rfl, List.forall_mem_cons.mpr ⟨rfl, List.forall_mem_cons.mpr ⟨rfl, fun _ h => absurd h List.not_mem_nil⟩⟩⟩⟩⟩⟩⟩⟩⟩⟩⟩⟩⟩⟩) rfl rfl rfl
          · refine gi_lload (q := 348) C (dm_Mo_compared 179 rfl) rfl rfl ?_
            refine gi_lconst (q := 349) (v := 1) C (dm_Mo_compared 180 rfl) rfl (by decide) ?_
            refine gi_ladd (q := 350) C (dm_Mo_compared 181 rfl) rfl ?_
            refine gi_goto (tgt := 356) C (dm_Mo_compared 182 rfl) (by decide) ?_
            have q157 := c326
            rw [show (20 : Int32) = nI 20 from rfl, nI_eqP (by omega) (by decide)] at q157
            have q163 := c332
            rw [show (25 : Int32) = nI 25 from rfl, nI_eqP (by omega) (by decide)] at q163
            have q174 := c343
            rw [show (22 : Int32) = nI 22 from rfl, nI_eqP (by omega) (by decide)] at q174
            have ev : loY op X = X.1 + 1 := by
              unfold loY
              rw [if_neg (fun z => z.elim q157 q163), if_pos q174]
            rw [show (1 : Int64) = eL 1 from rfl, eL_add]
            have q9 := hJa () _ rfl
            rw [ev] at q9
            exact gi_close q9 (List.forall_mem_cons.mpr ⟨rfl, List.forall_mem_cons.mpr ⟨rfl, List.forall_mem_cons.mpr ⟨rfl, List.forall_mem_cons.mpr ⟨rfl, List.forall_mem_cons.mpr ⟨rfl, List.forall_mem_cons.mpr ⟨rfl, List.forall_mem_cons.mpr ⟨rfl, List.forall_mem_cons.mpr ⟨rfl, List.forall_mem_cons.mpr ⟨rfl, List.forall_mem_cons.mpr ⟨rfl, List.forall_mem_cons.mpr ⟨rfl, List.forall_mem_cons.mpr ⟨rfl, List.forall_mem_cons.mpr ⟨rfl, List.forall_mem_cons.mpr ⟨rfl, fun _ h => absurd h List.not_mem_nil⟩⟩⟩⟩⟩⟩⟩⟩⟩⟩⟩⟩⟩⟩) rfl rfl rfl
        · refine gi_lload (q := 337) C (dm_Mo_compared 174 rfl) rfl rfl ?_
          refine gi_goto (tgt := 356) C (dm_Mo_compared 175 rfl) (by decide) ?_
          have q157 := c326
          rw [show (20 : Int32) = nI 20 from rfl, nI_eqP (by omega) (by decide)] at q157
          have q163 := c332
          rw [show (25 : Int32) = nI 25 from rfl, nI_eqP (by omega) (by decide)] at q163
          have ev : loY op X = X.1 := by
            unfold loY
            rw [if_pos (Or.inr q163)]
          have q9 := hJa () _ rfl
          rw [ev] at q9
          exact gi_close q9 (List.forall_mem_cons.mpr ⟨rfl, List.forall_mem_cons.mpr ⟨rfl, List.forall_mem_cons.mpr ⟨rfl, List.forall_mem_cons.mpr ⟨rfl, List.forall_mem_cons.mpr ⟨rfl, List.forall_mem_cons.mpr ⟨rfl, List.forall_mem_cons.mpr ⟨rfl, List.forall_mem_cons.mpr ⟨rfl, List.forall_mem_cons.mpr ⟨rfl, List.forall_mem_cons.mpr ⟨rfl, List.forall_mem_cons.mpr ⟨rfl, List.forall_mem_cons.mpr ⟨rfl, List.forall_mem_cons.mpr ⟨rfl, List.forall_mem_cons.mpr ⟨rfl, fun _ h => absurd h List.not_mem_nil⟩⟩⟩⟩⟩⟩⟩⟩⟩⟩⟩⟩⟩⟩) rfl rfl rfl
  · have o21 : op = 21 := by
      have q := c263
      rw [show (21 : Int32) = nI 21 from rfl, nI_eqP (by omega) (by decide)] at q
      exact q
    have n21 : narY op X Y = (if X.1 = X.2.1 then loseS Y X.1 else some Y) := by rw [o21]; rfl
    obtain ⟨b1, b2, b3, -⟩ := id okX
    
    refine gi_lload (q := 268) C (dm_Mo_compared 140 rfl) rfl rfl ?_
    refine gi_lload (q := 270) C (dm_Mo_compared 141 rfl) rfl rfl ?_
    refine gi_lcmp (q := 271) C (dm_Mo_compared 142 rfl) rfl ?_
    refine gi_if_ne (q := 274) (tgt := 289) C (dm_Mo_compared 143 rfl) rfl (by decide) (fun c271 => ?_) (fun c271 => ?_)
    · refine gi_iconst (q := 290) (v := 1) C (dm_Mo_compared 151 rfl) rfl (by decide) ?_
      refine gi_goto (tgt := 294) C (dm_Mo_compared 152 rfl) (by decide) ?_
      refine gi_istore (q := 296) C (dm_Mo_compared 154 rfl) rfl (Nat.le_of_ble_eq_true rfl) ?_
      refine gi_iload (q := 298) C (dm_Mo_compared 155 rfl) rfl rfl ?_
      refine gi_if_ne (q := 301) (tgt := 302) C (dm_Mo_compared 156 rfl) rfl (by decide) (fun c298 => ?_) (fun c298 => ?_)
      · refine gi_lload (q := 304) C (dm_Mo_compared 158 rfl) rfl rfl ?_
        refine gi_lload (q := 306) C (dm_Mo_compared 159 rfl) rfl rfl ?_
        refine gi_lcmp (q := 307) C (dm_Mo_compared 160 rfl) rfl ?_
        refine gi_if_eq (q := 310) (tgt := 411) C (dm_Mo_compared 161 rfl) rfl (by decide) (fun c307 => ?_) (fun c307 => ?_)
        · exact absurd c307 c271
        · refine gi_aload_n (q := 311) (i := 0) C (dm_Mo_compared 162 rfl) rfl rfl rfl ?_
          refine gi_lload (q := 313) C (dm_Mo_compared 163 rfl) rfl rfl ?_
          refine gi_lload (q := 315) C (dm_Mo_compared 164 rfl) rfl rfl ?_
          refine gi_lload (q := 317) C (dm_Mo_compared 165 rfl) rfl rfl ?_
          refine gi_callv 3 (q := 320) C (dm_Mo_compared 166 rfl) rfl my_Mo_set lk_Mo_262 im_Mo_set rfl (ww_set HW Y okY) Ha rfl rfl ⟨(Nat.le_of_ble_eq_true rfl), (Nat.le_of_ble_eq_true rfl)⟩ (Nat.le_of_ble_eq_true rfl) ⟨(Nat.le_of_ble_eq_true rfl), (Nat.le_of_ble_eq_true rfl)⟩ (fun r317 n317 h317 e317 => ?_)
          obtain ⟨rfl, rfl, S3, J3, HW3, rs3⟩ := e317
          have H := HW3.1
          obtain ⟨fs, Ha, Hf⟩ := id H.1
          have ho := HW3.2.1
          refine gi_goto (tgt := 411) C (dm_Mo_compared 167 rfl) (by decide) ?_
          have rs9 := rsJ (rs3 _ rfl)
          refine gi_close (cmp_3 C hr HW3 B hmd hm hi hx hL h20 h25 okX okY hmx hmy hloc hg hu (show narY op X Y = some Y from by rw [n21, if_neg (fun q9 => c271 ((lg_cmp_eq _ _).mpr (by rw [q9])))]) oku rs9) (List.forall_mem_cons.mpr ⟨rfl, List.forall_mem_cons.mpr ⟨rfl, List.forall_mem_cons.mpr ⟨rfl, List.forall_mem_cons.mpr ⟨rfl, List.forall_mem_cons.mpr ⟨rfl, List.forall_mem_cons.mpr ⟨rfl, List.forall_mem_cons.mpr ⟨rfl, List.forall_mem_cons.mpr ⟨rfl, List.forall_mem_cons.mpr ⟨rfl, List.forall_mem_cons.mpr ⟨rfl, List.forall_mem_cons.mpr ⟨rfl, List.forall_mem_cons.mpr ⟨rfl, List.forall_mem_cons.mpr ⟨rfl, List.forall_mem_cons.mpr ⟨rfl, fun _ h => absurd h List.not_mem_nil⟩⟩⟩⟩⟩⟩⟩⟩⟩⟩⟩⟩⟩⟩) rfl rfl rfl
      · exact absurd c298 (by decide)
    · refine gi_aload_n (q := 275) (i := 0) C (dm_Mo_compared 144 rfl) rfl rfl rfl ?_
      refine gi_lload (q := 277) C (dm_Mo_compared 145 rfl) rfl rfl ?_
      refine gi_lload (q := 279) C (dm_Mo_compared 146 rfl) rfl rfl ?_
      refine gi_lload (q := 281) C (dm_Mo_compared 147 rfl) rfl rfl ?_
      refine gi_lload (q := 283) C (dm_Mo_compared 148 rfl) rfl rfl ?_
      refine gi_callv 4 (q := 286) C (dm_Mo_compared 149 rfl) rfl my_Mo_withoutEnd lk_Mo_483 im_Mo_withoutEnd rfl (ww_withoutEnd HW Y X.1 okY (by omega) (by omega)) Ha rfl rfl ⟨(Nat.le_of_ble_eq_true rfl), (Nat.le_of_ble_eq_true rfl)⟩ (Nat.le_of_ble_eq_true rfl) ⟨(Nat.le_of_ble_eq_true rfl), (Nat.le_of_ble_eq_true rfl)⟩ (fun r283 n283 h283 e283 => ?_)
      obtain ⟨rfl, rfl, S2, J2, HW2, rs2⟩ := e283
      have H := HW2.1
      obtain ⟨fs, Ha, Hf⟩ := id H.1
      have ho := HW2.2.1
      refine gi_if_eq (q := 289) (tgt := 293) C (dm_Mo_compared 150 rfl) rfl (by decide) (fun c286 => ?_) (fun c286 => ?_)
      · refine gi_iconst (q := 294) (v := 0) C (dm_Mo_compared 153 rfl) rfl (by decide) ?_
        refine gi_istore (q := 296) C (dm_Mo_compared 154 rfl) rfl (Nat.le_of_ble_eq_true rfl) ?_
        refine gi_iload (q := 298) C (dm_Mo_compared 155 rfl) rfl rfl ?_
        refine gi_if_ne (q := 301) (tgt := 302) C (dm_Mo_compared 156 rfl) rfl (by decide) (fun c298 => ?_) (fun c298 => ?_)
        · exact absurd c298 (by decide)
        · refine gi_vret C hr (dm_Mo_compared 157 rfl) ?_
          have en : loseS Y X.1 = none := by
            cases e9 : loseS Y X.1 with
            | none => rfl
            | some u9 => rw [e9] at c286; exact absurd (bI_fa c286) (by simp)
          have en : narY op X Y = none := by rw [n21, if_pos ((eL_eq (by omega) (by omega) (by omega) (by omega)).mp ((lg_cmp_eq _ _).mp c271))]; exact en
          rw [opens_y en]
          exact ⟨rfl, rfl, HW2.end⟩
      · refine gi_iconst (q := 290) (v := 1) C (dm_Mo_compared 151 rfl) rfl (by decide) ?_
        refine gi_goto (tgt := 294) C (dm_Mo_compared 152 rfl) (by decide) ?_
        refine gi_istore (q := 296) C (dm_Mo_compared 154 rfl) rfl (Nat.le_of_ble_eq_true rfl) ?_
        refine gi_iload (q := 298) C (dm_Mo_compared 155 rfl) rfl rfl ?_
        refine gi_if_ne (q := 301) (tgt := 302) C (dm_Mo_compared 156 rfl) rfl (by decide) (fun c298 => ?_) (fun c298 => ?_)
        · refine gi_lload (q := 304) C (dm_Mo_compared 158 rfl) rfl rfl ?_
          refine gi_lload (q := 306) C (dm_Mo_compared 159 rfl) rfl rfl ?_
          refine gi_lcmp (q := 307) C (dm_Mo_compared 160 rfl) rfl ?_
          refine gi_if_eq (q := 310) (tgt := 411) C (dm_Mo_compared 161 rfl) rfl (by decide) (fun c307 => ?_) (fun c307 => ?_)
          · obtain ⟨z, ez⟩ : ∃ z, loseS Y X.1 = some z := Option.isSome_iff_exists.mp (bI_t c286)
            have rs9 := rsJ (rs2 _ ez)
            refine gi_close (cmp_3 C hr HW2 B hmd hm hi hx hL h20 h25 okX okY hmx hmy hloc hg hu (show narY op X Y = some z from by rw [n21, if_pos ((eL_eq (by omega) (by omega) (by omega) (by omega)).mp ((lg_cmp_eq _ _).mp c271))]; exact ez) oku rs9) (List.forall_mem_cons.mpr ⟨rfl, List.forall_mem_cons.mpr ⟨rfl, List.forall_mem_cons.mpr ⟨rfl, List.forall_mem_cons.mpr ⟨rfl, List.forall_mem_cons.mpr ⟨rfl, List.forall_mem_cons.mpr ⟨rfl, List.forall_mem_cons.mpr ⟨rfl, List.forall_mem_cons.mpr ⟨rfl, List.forall_mem_cons.mpr ⟨rfl, List.forall_mem_cons.mpr ⟨rfl, List.forall_mem_cons.mpr ⟨rfl, List.forall_mem_cons.mpr ⟨rfl, List.forall_mem_cons.mpr ⟨rfl, List.forall_mem_cons.mpr ⟨rfl, fun _ h => absurd h List.not_mem_nil⟩⟩⟩⟩⟩⟩⟩⟩⟩⟩⟩⟩⟩⟩) rfl rfl rfl
          · refine gi_aload_n (q := 311) (i := 0) C (dm_Mo_compared 162 rfl) rfl rfl rfl ?_
            refine gi_lload (q := 313) C (dm_Mo_compared 163 rfl) rfl rfl ?_
            refine gi_lload (q := 315) C (dm_Mo_compared 164 rfl) rfl rfl ?_
            refine gi_lload (q := 317) C (dm_Mo_compared 165 rfl) rfl rfl ?_
            refine gi_callv 3 (q := 320) C (dm_Mo_compared 166 rfl) rfl my_Mo_set lk_Mo_262 im_Mo_set rfl (ww_set HW2 Y okY) Ha rfl rfl ⟨(Nat.le_of_ble_eq_true rfl), (Nat.le_of_ble_eq_true rfl)⟩ (Nat.le_of_ble_eq_true rfl) ⟨(Nat.le_of_ble_eq_true rfl), (Nat.le_of_ble_eq_true rfl)⟩ (fun r317 n317 h317 e317 => ?_)
            obtain ⟨rfl, rfl, S3, J3, HW3, rs3⟩ := e317
            have H := HW3.1
            obtain ⟨fs, Ha, Hf⟩ := id H.1
            have ho := HW3.2.1
            refine gi_goto (tgt := 411) C (dm_Mo_compared 167 rfl) (by decide) ?_
            exact absurd c271 c307
        · exact absurd c298 (by decide)
set_option maxHeartbeats 4000000 in
set_option maxRecDepth 100000 in
theorem cmp_2 {p : Program} {e : Env} {sg : State} {mi : MethodId} {args : Array Value} {below : List Frame} {meth : Method} {c : Code} (C : gi_C p sg mi args meth c b_Mo_compared 32 y_Mo_compared.cls V) (hr : meth.sig.returnType = none) (HW : WW M k P sh md Ff κ h S0 J0 F0 G0 Z L (n0 - 2) f S J F G y) (B : Built k P sh (siN k P sh) (wdF k P)) (hmd : md ≤ 2) {a : Nat} (hm : a < k) (hi : i < pN P 5 a) (hx : sh (60 * a + i) = some x) (hL : pN P 2 a = L) {op : Nat} (h20 : 20 ≤ op) (h25 : op ≤ 25) {X Y : Sp} (okX : okS X) (okY : okS Y) {mx my : Int32} (hmx : mx = -1 ∨ ∃ j, j < L ∧ mx = nI j) (hmy : my = -1 ∨ ∃ j, j < L ∧ my = nI j) (hloc : ∀ i, i < L → (f i).2 = -1) (hg : ∀ g, opensF op (n0 - 2) f X Y mx my = some g → tyG P a x (n0 - 2) g) {u : Sp} (hu : narX op X Y = some u) (rs : J 22 = eL u.1 ∧ J 23 = eL u.2.1 ∧ J 24 = eL u.2.2) : gi_G p l e { frames := 4, cells := 0, slots := 0, locals := 94 } sg mi args below meth c (MQ below (gi_Qc V (fun v n' h' => v = none ∧ n' = n ∧ spP M k P sh md Ff κ h S0 J0 F0 G0 (match opensF op (n0 - 2) f X Y mx my with | none => Z | some g => comeM md (grF (wdF k P)) Z (60 * a + i, n0 - 2, g)) h')) args sg 0 0 (fun q : Nat => V.2.2 ≤ q)) V 32 0 0 242 [(1, .int (nI op)), (2, .int (nI (60 * a + i))), (5, .long (eL X.1)), (7, .long (eL X.2.1)), (9, .long (eL X.2.2)), (11, .long (eL Y.1)), (13, .long (eL Y.2.1)), (15, .long (eL Y.2.2)), (17, .int mx), (18, .int my), (0, .ref M)] [] n y := by
  have H := HW.1
  obtain ⟨fs, Ha, Hf⟩ := id H.1
  have ho := HW.2.1
  obtain ⟨f1, f2, f3, f4⟩ := HW.fb
  refine gi_aload_n (q := 243) (i := 0) C (dm_Mo_compared 128 rfl) rfl rfl rfl ?_
  refine gi_get (q := 246) C (dm_Mo_compared 129 rfl) rfl fl_Mo_242 Ha (mo_g22 Hf) ?_
  rw [rs.1]
  refine gi_lstore (q := 248) C (dm_Mo_compared 130 rfl) rfl (Nat.le_of_ble_eq_true rfl) ?_
  refine gi_aload_n (q := 249) (i := 0) C (dm_Mo_compared 131 rfl) rfl rfl rfl ?_
  refine gi_get (q := 252) C (dm_Mo_compared 132 rfl) rfl fl_Mo_246 Ha (mo_g23 Hf) ?_
  rw [rs.2.1]
  refine gi_lstore (q := 254) C (dm_Mo_compared 133 rfl) rfl (Nat.le_of_ble_eq_true rfl) ?_
  refine gi_aload_n (q := 255) (i := 0) C (dm_Mo_compared 134 rfl) rfl rfl rfl ?_
  refine gi_get (q := 258) C (dm_Mo_compared 135 rfl) rfl fl_Mo_249 Ha (mo_g24 Hf) ?_
  rw [rs.2.2]
  refine gi_lstore (q := 260) C (dm_Mo_compared 136 rfl) rfl (Nat.le_of_ble_eq_true rfl) ?_
  refine gi_close (cmp_2b C hr HW B hmd hm hi hx hL h20 h25 okX okY hmx hmy hloc hg hu (nar_ok okX hu)) (List.forall_mem_cons.mpr ⟨rfl, List.forall_mem_cons.mpr ⟨rfl, List.forall_mem_cons.mpr ⟨rfl, List.forall_mem_cons.mpr ⟨rfl, List.forall_mem_cons.mpr ⟨rfl, List.forall_mem_cons.mpr ⟨rfl, List.forall_mem_cons.mpr ⟨rfl, List.forall_mem_cons.mpr ⟨rfl, List.forall_mem_cons.mpr ⟨rfl, List.forall_mem_cons.mpr ⟨rfl, List.forall_mem_cons.mpr ⟨rfl, List.forall_mem_cons.mpr ⟨rfl, List.forall_mem_cons.mpr ⟨rfl, List.forall_mem_cons.mpr ⟨rfl, fun _ h => absurd h List.not_mem_nil⟩⟩⟩⟩⟩⟩⟩⟩⟩⟩⟩⟩⟩⟩) rfl rfl rfl
set_option maxHeartbeats 4000000 in
set_option maxRecDepth 100000 in
theorem cmp_1 {p : Program} {e : Env} {sg : State} {mi : MethodId} {args : Array Value} {below : List Frame} {meth : Method} {c : Code} (C : gi_C p sg mi args meth c b_Mo_compared 32 y_Mo_compared.cls V) (hr : meth.sig.returnType = none) (HW : WW M k P sh md Ff κ h S0 J0 F0 G0 Z L (n0 - 2) f S J F G y) (B : Built k P sh (siN k P sh) (wdF k P)) (hmd : md ≤ 2) {a : Nat} (hm : a < k) (hi : i < pN P 5 a) (hx : sh (60 * a + i) = some x) (hL : pN P 2 a = L) {op : Nat} (h20 : 20 ≤ op) (h25 : op ≤ 25) {X Y : Sp} (okX : okS X) (okY : okS Y) {mx my : Int32} (hmx : mx = -1 ∨ ∃ j, j < L ∧ mx = nI j) (hmy : my = -1 ∨ ∃ j, j < L ∧ my = nI j) (hloc : ∀ i, i < L → (f i).2 = -1) (hg : ∀ g, opensF op (n0 - 2) f X Y mx my = some g → tyG P a x (n0 - 2) g) : gi_G p l e { frames := 4, cells := 0, slots := 0, locals := 94 } sg mi args below meth c (MQ below (gi_Qc V (fun v n' h' => v = none ∧ n' = n ∧ spP M k P sh md Ff κ h S0 J0 F0 G0 (match opensF op (n0 - 2) f X Y mx my with | none => Z | some g => comeM md (grF (wdF k P)) Z (60 * a + i, n0 - 2, g)) h')) args sg 0 0 (fun q : Nat => V.2.2 ≤ q)) V 32 0 0 91 [(1, .int (nI op)), (2, .int (nI (60 * a + i))), (5, .long (eL X.1)), (7, .long (eL X.2.1)), (9, .long (eL X.2.2)), (11, .long (eL Y.1)), (13, .long (eL Y.2.1)), (15, .long (eL Y.2.2)), (17, .int mx), (18, .int my), (0, .ref M)] [] n y := by
  have H := HW.1
  obtain ⟨fs, Ha, Hf⟩ := id H.1
  have ho := HW.2.1
  obtain ⟨f1, f2, f3, f4⟩ := HW.fb
  refine gi_iload_n (q := 92) (i := 1) C (dm_Mo_compared 54 rfl) rfl rfl rfl ?_
  refine gi_bipush (q := 94) (v := 21) C (dm_Mo_compared 55 rfl) rfl (by decide) ?_
  refine gi_icmp_ne (q := 97) (tgt := 154) C (dm_Mo_compared 56 rfl) rfl (by decide) (fun c94 => ?_) (fun c94 => ?_)
  · have o21 : ¬ op = 21 := by
      have q := c94
      rw [show (21 : Int32) = nI 21 from rfl, nI_eqP (by omega) (by decide)] at q
      exact q
    have lb : (-8589934592 ≤ loX op Y ∧ loX op Y ≤ 8589934592) ∧ (-8589934592 ≤ hiX op Y ∧ hiX op Y ≤ 8589934592) := ⟨(lo_b (op := op) okY).1, (lo_b (op := op) okY).2.1⟩
    refine gi_meet (σ := Unit) 187 (fun _ => [(1, .int (nI op)), (2, .int (nI (60 * a + i))), (5, .long (eL X.1)), (7, .long (eL X.2.1)), (9, .long (eL X.2.2)), (11, .long (eL Y.1)), (13, .long (eL Y.2.1)), (15, .long (eL Y.2.2)), (17, .int mx), (18, .int my), (0, .ref M)]) (fun _ => [.long (eL (loX op Y))]) (fun _ y9 => y = y9) ?_ (fun hJa => ?_)
    · rintro - _ rfl
      refine gi_lstore (q := 189) C (dm_Mo_compared 101 rfl) rfl (Nat.le_of_ble_eq_true rfl) ?_
      refine gi_meet (σ := Unit) 222 (fun _ => [(20, .long (eL (loX op Y))), (1, .int (nI op)), (2, .int (nI (60 * a + i))), (5, .long (eL X.1)), (7, .long (eL X.2.1)), (9, .long (eL X.2.2)), (11, .long (eL Y.1)), (13, .long (eL Y.2.1)), (15, .long (eL Y.2.2)), (17, .int mx), (18, .int my), (0, .ref M)]) (fun _ => [.long (eL (hiX op Y))]) (fun _ y9 => y = y9) ?_ (fun hJb => ?_)
      · rintro - _ rfl
        refine gi_lstore (q := 224) C (dm_Mo_compared 118 rfl) rfl (Nat.le_of_ble_eq_true rfl) ?_
        refine gi_aload_n (q := 225) (i := 0) C (dm_Mo_compared 119 rfl) rfl rfl rfl ?_
        refine gi_lload (q := 227) C (dm_Mo_compared 120 rfl) rfl rfl ?_
        refine gi_lload (q := 229) C (dm_Mo_compared 121 rfl) rfl rfl ?_
        refine gi_lload (q := 231) C (dm_Mo_compared 122 rfl) rfl rfl ?_
        refine gi_lload (q := 233) C (dm_Mo_compared 123 rfl) rfl rfl ?_
        refine gi_lload (q := 235) C (dm_Mo_compared 124 rfl) rfl rfl ?_
        refine gi_callv 5 (q := 238) C (dm_Mo_compared 125 rfl) rfl my_Mo_within lk_Mo_317 im_Mo_within rfl (ww_within HW X (loX op Y) (hiX op Y) okX lb.1.1 lb.1.2 lb.2.1 lb.2.2) Ha rfl rfl ⟨(Nat.le_of_ble_eq_true rfl), (Nat.le_of_ble_eq_true rfl)⟩ (Nat.le_of_ble_eq_true rfl) ⟨(Nat.le_of_ble_eq_true rfl), (Nat.le_of_ble_eq_true rfl)⟩ (fun r235 n235 h235 e235 => ?_)
        obtain ⟨rfl, rfl, S2, J2, HW2, rs2⟩ := e235
        have H := HW2.1
        obtain ⟨fs, Ha, Hf⟩ := id H.1
        have ho := HW2.2.1
        refine gi_if_ne (q := 241) (tgt := 242) C (dm_Mo_compared 126 rfl) rfl (by decide) (fun c238 => ?_) (fun c238 => ?_)
        · obtain ⟨z, ez⟩ : ∃ z, withinS X (loX op Y) (hiX op Y) = some z := Option.isSome_iff_exists.mp (bI_t c238)
          have rs9 := rsJ (rs2 _ ez)
          refine gi_close (cmp_2 C hr HW2 B hmd hm hi hx hL h20 h25 okX okY hmx hmy hloc hg (show narX op X Y = some z from by rw [nar_X h20 h25 o21]; exact ez) rs9) (List.forall_mem_cons.mpr ⟨rfl, List.forall_mem_cons.mpr ⟨rfl, List.forall_mem_cons.mpr ⟨rfl, List.forall_mem_cons.mpr ⟨rfl, List.forall_mem_cons.mpr ⟨rfl, List.forall_mem_cons.mpr ⟨rfl, List.forall_mem_cons.mpr ⟨rfl, List.forall_mem_cons.mpr ⟨rfl, List.forall_mem_cons.mpr ⟨rfl, List.forall_mem_cons.mpr ⟨rfl, List.forall_mem_cons.mpr ⟨rfl, fun _ h => absurd h List.not_mem_nil⟩⟩⟩⟩⟩⟩⟩⟩⟩⟩⟩) rfl rfl rfl
        · refine gi_vret C hr (dm_Mo_compared 127 rfl) ?_
          have en : withinS X (loX op Y) (hiX op Y) = none := by
            cases e9 : withinS X (loX op Y) (hiX op Y) with
            | none => rfl
            | some u9 => rw [e9] at c238; exact absurd (bI_fa c238) (by simp)
          have en : narX op X Y = none := by rw [nar_X h20 h25 o21]; exact en
          rw [opens_x en]
          exact ⟨rfl, rfl, HW2.end⟩
      · refine gi_iload_n (q := 190) (i := 1) C (dm_Mo_compared 102 rfl) rfl rfl rfl ?_
        refine gi_bipush (q := 192) (v := 20) C (dm_Mo_compared 103 rfl) rfl (by decide) ?_
        refine gi_icmp_eq (q := 195) (tgt := 201) C (dm_Mo_compared 104 rfl) rfl (by decide) (fun c192 => ?_) (fun c192 => ?_)
        · refine gi_lload (q := 203) C (dm_Mo_compared 108 rfl) rfl rfl ?_
          refine gi_goto (tgt := 222) C (dm_Mo_compared 109 rfl) (by decide) ?_
          have q192 := c192
          rw [show (20 : Int32) = nI 20 from rfl, nI_eqP (by omega) (by decide)] at q192
          have ev : hiX op Y = Y.2.1 := by
            unfold hiX
            rw [if_pos (Or.inl q192)]
          have q9 := hJb () _ rfl
          rw [ev] at q9
          exact gi_close q9 (List.forall_mem_cons.mpr ⟨rfl, List.forall_mem_cons.mpr ⟨rfl, List.forall_mem_cons.mpr ⟨rfl, List.forall_mem_cons.mpr ⟨rfl, List.forall_mem_cons.mpr ⟨rfl, List.forall_mem_cons.mpr ⟨rfl, List.forall_mem_cons.mpr ⟨rfl, List.forall_mem_cons.mpr ⟨rfl, List.forall_mem_cons.mpr ⟨rfl, List.forall_mem_cons.mpr ⟨rfl, List.forall_mem_cons.mpr ⟨rfl, List.forall_mem_cons.mpr ⟨rfl, fun _ h => absurd h List.not_mem_nil⟩⟩⟩⟩⟩⟩⟩⟩⟩⟩⟩⟩) rfl rfl rfl
        · refine gi_iload_n (q := 196) (i := 1) C (dm_Mo_compared 105 rfl) rfl rfl rfl ?_
          refine gi_bipush (q := 198) (v := 25) C (dm_Mo_compared 106 rfl) rfl (by decide) ?_
          refine gi_icmp_ne (q := 201) (tgt := 206) C (dm_Mo_compared 107 rfl) rfl (by decide) (fun c198 => ?_) (fun c198 => ?_)
          · refine gi_iload_n (q := 207) (i := 1) C (dm_Mo_compared 110 rfl) rfl rfl rfl ?_
            refine gi_bipush (q := 209) (v := 22) C (dm_Mo_compared 111 rfl) rfl (by decide) ?_
            refine gi_icmp_ne (q := 212) (tgt := 219) C (dm_Mo_compared 112 rfl) rfl (by decide) (fun c209 => ?_) (fun c209 => ?_)
            · refine gi_ldc2 (q := 222) C (dm_Mo_compared 117 rfl) rfl kc_Mo_280 ?_
              have q192 := c192
              rw [show (20 : Int32) = nI 20 from rfl, nI_eqP (by omega) (by decide)] at q192
              have q198 := c198
              rw [show (25 : Int32) = nI 25 from rfl, nI_eqP (by omega) (by decide)] at q198
              have q209 := c209
              rw [show (22 : Int32) = nI 22 from rfl, nI_eqP (by omega) (by decide)] at q209
              have ev : hiX op Y = 2147483647 := by
                unfold hiX
                rw [if_neg (fun z => z.elim q192 q198), if_neg q209]
              rw [show (2147483647 : Int64) = eL (2147483647) from rfl]
              have q9 := hJb () _ rfl
              rw [ev] at q9
              exact gi_close q9 (List.forall_mem_cons.mpr ⟨rfl, List.forall_mem_cons.mpr ⟨rfl, List.forall_mem_cons.mpr ⟨rfl, List.forall_mem_cons.mpr ⟨rfl, List.forall_mem_cons.mpr ⟨rfl, List.forall_mem_cons.mpr ⟨rfl, List.forall_mem_cons.mpr ⟨rfl, List.forall_mem_cons.mpr ⟨rfl, List.forall_mem_cons.mpr ⟨rfl, List.forall_mem_cons.mpr ⟨rfl, List.forall_mem_cons.mpr ⟨rfl, List.forall_mem_cons.mpr ⟨rfl, fun _ h => absurd h List.not_mem_nil⟩⟩⟩⟩⟩⟩⟩⟩⟩⟩⟩⟩) rfl rfl rfl
            · refine gi_lload (q := 214) C (dm_Mo_compared 113 rfl) rfl rfl ?_
              refine gi_lconst (q := 215) (v := 1) C (dm_Mo_compared 114 rfl) rfl (by decide) ?_
              refine gi_lsub (q := 216) C (dm_Mo_compared 115 rfl) rfl ?_
              refine gi_goto (tgt := 222) C (dm_Mo_compared 116 rfl) (by decide) ?_
              have q192 := c192
              rw [show (20 : Int32) = nI 20 from rfl, nI_eqP (by omega) (by decide)] at q192
              have q198 := c198
              rw [show (25 : Int32) = nI 25 from rfl, nI_eqP (by omega) (by decide)] at q198
              have q209 := c209
              rw [show (22 : Int32) = nI 22 from rfl, nI_eqP (by omega) (by decide)] at q209
              have ev : hiX op Y = Y.2.1 - 1 := by
                unfold hiX
                rw [if_neg (fun z => z.elim q192 q198), if_pos q209]
              rw [show (1 : Int64) = eL 1 from rfl, eL_sub]
              have q9 := hJb () _ rfl
              rw [ev] at q9
              exact gi_close q9 (List.forall_mem_cons.mpr ⟨rfl, List.forall_mem_cons.mpr ⟨rfl, List.forall_mem_cons.mpr ⟨rfl, List.forall_mem_cons.mpr ⟨rfl, List.forall_mem_cons.mpr ⟨rfl, List.forall_mem_cons.mpr ⟨rfl, List.forall_mem_cons.mpr ⟨rfl, List.forall_mem_cons.mpr ⟨rfl, List.forall_mem_cons.mpr ⟨rfl, List.forall_mem_cons.mpr ⟨rfl, List.forall_mem_cons.mpr ⟨rfl, List.forall_mem_cons.mpr ⟨rfl, fun _ h => absurd h List.not_mem_nil⟩⟩⟩⟩⟩⟩⟩⟩⟩⟩⟩⟩) rfl rfl rfl
          · refine gi_lload (q := 203) C (dm_Mo_compared 108 rfl) rfl rfl ?_
            refine gi_goto (tgt := 222) C (dm_Mo_compared 109 rfl) (by decide) ?_
            have q192 := c192
            rw [show (20 : Int32) = nI 20 from rfl, nI_eqP (by omega) (by decide)] at q192
            have q198 := c198
            rw [show (25 : Int32) = nI 25 from rfl, nI_eqP (by omega) (by decide)] at q198
            have ev : hiX op Y = Y.2.1 := by
              unfold hiX
              rw [if_pos (Or.inr q198)]
            have q9 := hJb () _ rfl
            rw [ev] at q9
            exact gi_close q9 (List.forall_mem_cons.mpr ⟨rfl, List.forall_mem_cons.mpr ⟨rfl, List.forall_mem_cons.mpr ⟨rfl, List.forall_mem_cons.mpr ⟨rfl, List.forall_mem_cons.mpr ⟨rfl, List.forall_mem_cons.mpr ⟨rfl, List.forall_mem_cons.mpr ⟨rfl, List.forall_mem_cons.mpr ⟨rfl, List.forall_mem_cons.mpr ⟨rfl, List.forall_mem_cons.mpr ⟨rfl, List.forall_mem_cons.mpr ⟨rfl, List.forall_mem_cons.mpr ⟨rfl, fun _ h => absurd h List.not_mem_nil⟩⟩⟩⟩⟩⟩⟩⟩⟩⟩⟩⟩) rfl rfl rfl
    · refine gi_iload_n (q := 155) (i := 1) C (dm_Mo_compared 85 rfl) rfl rfl rfl ?_
      refine gi_bipush (q := 157) (v := 20) C (dm_Mo_compared 86 rfl) rfl (by decide) ?_
      refine gi_icmp_eq (q := 160) (tgt := 166) C (dm_Mo_compared 87 rfl) rfl (by decide) (fun c157 => ?_) (fun c157 => ?_)
      · refine gi_lload (q := 168) C (dm_Mo_compared 91 rfl) rfl rfl ?_
        refine gi_goto (tgt := 187) C (dm_Mo_compared 92 rfl) (by decide) ?_
        have q157 := c157
        rw [show (20 : Int32) = nI 20 from rfl, nI_eqP (by omega) (by decide)] at q157
        have ev : loX op Y = Y.1 := by
          unfold loX
          rw [if_pos (Or.inl q157)]
        have q9 := hJa () _ rfl
        rw [ev] at q9
        exact gi_close q9 (List.forall_mem_cons.mpr ⟨rfl, List.forall_mem_cons.mpr ⟨rfl, List.forall_mem_cons.mpr ⟨rfl, List.forall_mem_cons.mpr ⟨rfl, List.forall_mem_cons.mpr ⟨rfl, List.forall_mem_cons.mpr ⟨rfl, List.forall_mem_cons.mpr ⟨rfl, List.forall_mem_cons.mpr ⟨rfl, List.forall_mem_cons.mpr ⟨rfl, List.forall_mem_cons.mpr ⟨rfl, List.forall_mem_cons.mpr ⟨rfl, fun _ h => absurd h List.not_mem_nil⟩⟩⟩⟩⟩⟩⟩⟩⟩⟩⟩) rfl rfl rfl
      · refine gi_iload_n (q := 161) (i := 1) C (dm_Mo_compared 88 rfl) rfl rfl rfl ?_
        refine gi_bipush (q := 163) (v := 23) C (dm_Mo_compared 89 rfl) rfl (by decide) ?_
        refine gi_icmp_ne (q := 166) (tgt := 171) C (dm_Mo_compared 90 rfl) rfl (by decide) (fun c163 => ?_) (fun c163 => ?_)
        · refine gi_iload_n (q := 172) (i := 1) C (dm_Mo_compared 93 rfl) rfl rfl rfl ?_
          refine gi_bipush (q := 174) (v := 24) C (dm_Mo_compared 94 rfl) rfl (by decide) ?_
          refine gi_icmp_ne (q := 177) (tgt := 184) C (dm_Mo_compared 95 rfl) rfl (by decide) (fun c174 => ?_) (fun c174 => ?_)
          · refine gi_ldc2 (q := 187) C (dm_Mo_compared 100 rfl) rfl kc_Mo_273 ?_
            have q157 := c157
            rw [show (20 : Int32) = nI 20 from rfl, nI_eqP (by omega) (by decide)] at q157
            have q163 := c163
            rw [show (23 : Int32) = nI 23 from rfl, nI_eqP (by omega) (by decide)] at q163
            have q174 := c174
            rw [show (24 : Int32) = nI 24 from rfl, nI_eqP (by omega) (by decide)] at q174
            have ev : loX op Y = -2147483648 := by
              unfold loX
              rw [if_neg (fun z => z.elim q157 q163), if_neg q174]
            rw [show (-2147483648 : Int64) = eL (-2147483648) from rfl]
            have q9 := hJa () _ rfl
            rw [ev] at q9
            exact gi_close q9 (List.forall_mem_cons.mpr ⟨rfl, List.forall_mem_cons.mpr ⟨rfl, List.forall_mem_cons.mpr ⟨rfl, List.forall_mem_cons.mpr ⟨rfl, List.forall_mem_cons.mpr ⟨rfl, List.forall_mem_cons.mpr ⟨rfl, List.forall_mem_cons.mpr ⟨rfl, List.forall_mem_cons.mpr ⟨rfl, List.forall_mem_cons.mpr ⟨rfl, List.forall_mem_cons.mpr ⟨rfl, List.forall_mem_cons.mpr ⟨rfl, fun _ h => absurd h List.not_mem_nil⟩⟩⟩⟩⟩⟩⟩⟩⟩⟩⟩) rfl rfl rfl
          · refine gi_lload (q := 179) C (dm_Mo_compared 96 rfl) rfl rfl ?_
            refine gi_lconst (q := 180) (v := 1) C (dm_Mo_compared 97 rfl) rfl (by decide) ?_
            refine gi_ladd (q := 181) C (dm_Mo_compared 98 rfl) rfl ?_
            refine gi_goto (tgt := 187) C (dm_Mo_compared 99 rfl) (by decide) ?_
            have q157 := c157
            rw [show (20 : Int32) = nI 20 from rfl, nI_eqP (by omega) (by decide)] at q157
            have q163 := c163
            rw [show (23 : Int32) = nI 23 from rfl, nI_eqP (by omega) (by decide)] at q163
            have q174 := c174
            rw [show (24 : Int32) = nI 24 from rfl, nI_eqP (by omega) (by decide)] at q174
            have ev : loX op Y = Y.1 + 1 := by
              unfold loX
              rw [if_neg (fun z => z.elim q157 q163), if_pos q174]
            rw [show (1 : Int64) = eL 1 from rfl, eL_add]
            have q9 := hJa () _ rfl
            rw [ev] at q9
            exact gi_close q9 (List.forall_mem_cons.mpr ⟨rfl, List.forall_mem_cons.mpr ⟨rfl, List.forall_mem_cons.mpr ⟨rfl, List.forall_mem_cons.mpr ⟨rfl, List.forall_mem_cons.mpr ⟨rfl, List.forall_mem_cons.mpr ⟨rfl, List.forall_mem_cons.mpr ⟨rfl, List.forall_mem_cons.mpr ⟨rfl, List.forall_mem_cons.mpr ⟨rfl, List.forall_mem_cons.mpr ⟨rfl, List.forall_mem_cons.mpr ⟨rfl, fun _ h => absurd h List.not_mem_nil⟩⟩⟩⟩⟩⟩⟩⟩⟩⟩⟩) rfl rfl rfl
        · refine gi_lload (q := 168) C (dm_Mo_compared 91 rfl) rfl rfl ?_
          refine gi_goto (tgt := 187) C (dm_Mo_compared 92 rfl) (by decide) ?_
          have q157 := c157
          rw [show (20 : Int32) = nI 20 from rfl, nI_eqP (by omega) (by decide)] at q157
          have q163 := c163
          rw [show (23 : Int32) = nI 23 from rfl, nI_eqP (by omega) (by decide)] at q163
          have ev : loX op Y = Y.1 := by
            unfold loX
            rw [if_pos (Or.inr q163)]
          have q9 := hJa () _ rfl
          rw [ev] at q9
          exact gi_close q9 (List.forall_mem_cons.mpr ⟨rfl, List.forall_mem_cons.mpr ⟨rfl, List.forall_mem_cons.mpr ⟨rfl, List.forall_mem_cons.mpr ⟨rfl, List.forall_mem_cons.mpr ⟨rfl, List.forall_mem_cons.mpr ⟨rfl, List.forall_mem_cons.mpr ⟨rfl, List.forall_mem_cons.mpr ⟨rfl, List.forall_mem_cons.mpr ⟨rfl, List.forall_mem_cons.mpr ⟨rfl, List.forall_mem_cons.mpr ⟨rfl, fun _ h => absurd h List.not_mem_nil⟩⟩⟩⟩⟩⟩⟩⟩⟩⟩⟩) rfl rfl rfl
  · have o21 : op = 21 := by
      have q := c94
      rw [show (21 : Int32) = nI 21 from rfl, nI_eqP (by omega) (by decide)] at q
      exact q
    have n21 : narX op X Y = (if Y.1 = Y.2.1 then loseS X Y.1 else some X) := by rw [o21]; rfl
    obtain ⟨b1, b2, b3, -⟩ := id okY
    
    refine gi_lload (q := 99) C (dm_Mo_compared 57 rfl) rfl rfl ?_
    refine gi_lload (q := 101) C (dm_Mo_compared 58 rfl) rfl rfl ?_
    refine gi_lcmp (q := 102) C (dm_Mo_compared 59 rfl) rfl ?_
    refine gi_if_ne (q := 105) (tgt := 120) C (dm_Mo_compared 60 rfl) rfl (by decide) (fun c102 => ?_) (fun c102 => ?_)
    · refine gi_iconst (q := 121) (v := 1) C (dm_Mo_compared 68 rfl) rfl (by decide) ?_
      refine gi_goto (tgt := 125) C (dm_Mo_compared 69 rfl) (by decide) ?_
      refine gi_istore (q := 127) C (dm_Mo_compared 71 rfl) rfl (Nat.le_of_ble_eq_true rfl) ?_
      refine gi_iload (q := 129) C (dm_Mo_compared 72 rfl) rfl rfl ?_
      refine gi_if_ne (q := 132) (tgt := 133) C (dm_Mo_compared 73 rfl) rfl (by decide) (fun c129 => ?_) (fun c129 => ?_)
      · refine gi_lload (q := 135) C (dm_Mo_compared 75 rfl) rfl rfl ?_
        refine gi_lload (q := 137) C (dm_Mo_compared 76 rfl) rfl rfl ?_
        refine gi_lcmp (q := 138) C (dm_Mo_compared 77 rfl) rfl ?_
        refine gi_if_eq (q := 141) (tgt := 242) C (dm_Mo_compared 78 rfl) rfl (by decide) (fun c138 => ?_) (fun c138 => ?_)
        · exact absurd c138 c102
        · refine gi_aload_n (q := 142) (i := 0) C (dm_Mo_compared 79 rfl) rfl rfl rfl ?_
          refine gi_lload (q := 144) C (dm_Mo_compared 80 rfl) rfl rfl ?_
          refine gi_lload (q := 146) C (dm_Mo_compared 81 rfl) rfl rfl ?_
          refine gi_lload (q := 148) C (dm_Mo_compared 82 rfl) rfl rfl ?_
          refine gi_callv 3 (q := 151) C (dm_Mo_compared 83 rfl) rfl my_Mo_set lk_Mo_262 im_Mo_set rfl (ww_set HW X okX) Ha rfl rfl ⟨(Nat.le_of_ble_eq_true rfl), (Nat.le_of_ble_eq_true rfl)⟩ (Nat.le_of_ble_eq_true rfl) ⟨(Nat.le_of_ble_eq_true rfl), (Nat.le_of_ble_eq_true rfl)⟩ (fun r148 n148 h148 e148 => ?_)
          obtain ⟨rfl, rfl, S3, J3, HW3, rs3⟩ := e148
          have H := HW3.1
          obtain ⟨fs, Ha, Hf⟩ := id H.1
          have ho := HW3.2.1
          refine gi_goto (tgt := 242) C (dm_Mo_compared 84 rfl) (by decide) ?_
          have rs9 := rsJ (rs3 _ rfl)
          refine gi_close (cmp_2 C hr HW3 B hmd hm hi hx hL h20 h25 okX okY hmx hmy hloc hg (show narX op X Y = some X from by rw [n21, if_neg (fun q9 => c102 ((lg_cmp_eq _ _).mpr (by rw [q9])))]) rs9) (List.forall_mem_cons.mpr ⟨rfl, List.forall_mem_cons.mpr ⟨rfl, List.forall_mem_cons.mpr ⟨rfl, List.forall_mem_cons.mpr ⟨rfl, List.forall_mem_cons.mpr ⟨rfl, List.forall_mem_cons.mpr ⟨rfl, List.forall_mem_cons.mpr ⟨rfl, List.forall_mem_cons.mpr ⟨rfl, List.forall_mem_cons.mpr ⟨rfl, List.forall_mem_cons.mpr ⟨rfl, List.forall_mem_cons.mpr ⟨rfl, fun _ h => absurd h List.not_mem_nil⟩⟩⟩⟩⟩⟩⟩⟩⟩⟩⟩) rfl rfl rfl
      · exact absurd c129 (by decide)
    · refine gi_aload_n (q := 106) (i := 0) C (dm_Mo_compared 61 rfl) rfl rfl rfl ?_
      refine gi_lload (q := 108) C (dm_Mo_compared 62 rfl) rfl rfl ?_
      refine gi_lload (q := 110) C (dm_Mo_compared 63 rfl) rfl rfl ?_
      refine gi_lload (q := 112) C (dm_Mo_compared 64 rfl) rfl rfl ?_
      refine gi_lload (q := 114) C (dm_Mo_compared 65 rfl) rfl rfl ?_
      refine gi_callv 4 (q := 117) C (dm_Mo_compared 66 rfl) rfl my_Mo_withoutEnd lk_Mo_483 im_Mo_withoutEnd rfl (ww_withoutEnd HW X Y.1 okX (by omega) (by omega)) Ha rfl rfl ⟨(Nat.le_of_ble_eq_true rfl), (Nat.le_of_ble_eq_true rfl)⟩ (Nat.le_of_ble_eq_true rfl) ⟨(Nat.le_of_ble_eq_true rfl), (Nat.le_of_ble_eq_true rfl)⟩ (fun r114 n114 h114 e114 => ?_)
      obtain ⟨rfl, rfl, S2, J2, HW2, rs2⟩ := e114
      have H := HW2.1
      obtain ⟨fs, Ha, Hf⟩ := id H.1
      have ho := HW2.2.1
      refine gi_if_eq (q := 120) (tgt := 124) C (dm_Mo_compared 67 rfl) rfl (by decide) (fun c117 => ?_) (fun c117 => ?_)
      · refine gi_iconst (q := 125) (v := 0) C (dm_Mo_compared 70 rfl) rfl (by decide) ?_
        refine gi_istore (q := 127) C (dm_Mo_compared 71 rfl) rfl (Nat.le_of_ble_eq_true rfl) ?_
        refine gi_iload (q := 129) C (dm_Mo_compared 72 rfl) rfl rfl ?_
        refine gi_if_ne (q := 132) (tgt := 133) C (dm_Mo_compared 73 rfl) rfl (by decide) (fun c129 => ?_) (fun c129 => ?_)
        · exact absurd c129 (by decide)
        · refine gi_vret C hr (dm_Mo_compared 74 rfl) ?_
          have en : loseS X Y.1 = none := by
            cases e9 : loseS X Y.1 with
            | none => rfl
            | some u9 => rw [e9] at c117; exact absurd (bI_fa c117) (by simp)
          have en : narX op X Y = none := by rw [n21, if_pos ((eL_eq (by omega) (by omega) (by omega) (by omega)).mp ((lg_cmp_eq _ _).mp c102))]; exact en
          rw [opens_x en]
          exact ⟨rfl, rfl, HW2.end⟩
      · refine gi_iconst (q := 121) (v := 1) C (dm_Mo_compared 68 rfl) rfl (by decide) ?_
        refine gi_goto (tgt := 125) C (dm_Mo_compared 69 rfl) (by decide) ?_
        refine gi_istore (q := 127) C (dm_Mo_compared 71 rfl) rfl (Nat.le_of_ble_eq_true rfl) ?_
        refine gi_iload (q := 129) C (dm_Mo_compared 72 rfl) rfl rfl ?_
        refine gi_if_ne (q := 132) (tgt := 133) C (dm_Mo_compared 73 rfl) rfl (by decide) (fun c129 => ?_) (fun c129 => ?_)
        · refine gi_lload (q := 135) C (dm_Mo_compared 75 rfl) rfl rfl ?_
          refine gi_lload (q := 137) C (dm_Mo_compared 76 rfl) rfl rfl ?_
          refine gi_lcmp (q := 138) C (dm_Mo_compared 77 rfl) rfl ?_
          refine gi_if_eq (q := 141) (tgt := 242) C (dm_Mo_compared 78 rfl) rfl (by decide) (fun c138 => ?_) (fun c138 => ?_)
          · obtain ⟨z, ez⟩ : ∃ z, loseS X Y.1 = some z := Option.isSome_iff_exists.mp (bI_t c117)
            have rs9 := rsJ (rs2 _ ez)
            refine gi_close (cmp_2 C hr HW2 B hmd hm hi hx hL h20 h25 okX okY hmx hmy hloc hg (show narX op X Y = some z from by rw [n21, if_pos ((eL_eq (by omega) (by omega) (by omega) (by omega)).mp ((lg_cmp_eq _ _).mp c102))]; exact ez) rs9) (List.forall_mem_cons.mpr ⟨rfl, List.forall_mem_cons.mpr ⟨rfl, List.forall_mem_cons.mpr ⟨rfl, List.forall_mem_cons.mpr ⟨rfl, List.forall_mem_cons.mpr ⟨rfl, List.forall_mem_cons.mpr ⟨rfl, List.forall_mem_cons.mpr ⟨rfl, List.forall_mem_cons.mpr ⟨rfl, List.forall_mem_cons.mpr ⟨rfl, List.forall_mem_cons.mpr ⟨rfl, List.forall_mem_cons.mpr ⟨rfl, fun _ h => absurd h List.not_mem_nil⟩⟩⟩⟩⟩⟩⟩⟩⟩⟩⟩) rfl rfl rfl
          · refine gi_aload_n (q := 142) (i := 0) C (dm_Mo_compared 79 rfl) rfl rfl rfl ?_
            refine gi_lload (q := 144) C (dm_Mo_compared 80 rfl) rfl rfl ?_
            refine gi_lload (q := 146) C (dm_Mo_compared 81 rfl) rfl rfl ?_
            refine gi_lload (q := 148) C (dm_Mo_compared 82 rfl) rfl rfl ?_
            refine gi_callv 3 (q := 151) C (dm_Mo_compared 83 rfl) rfl my_Mo_set lk_Mo_262 im_Mo_set rfl (ww_set HW2 X okX) Ha rfl rfl ⟨(Nat.le_of_ble_eq_true rfl), (Nat.le_of_ble_eq_true rfl)⟩ (Nat.le_of_ble_eq_true rfl) ⟨(Nat.le_of_ble_eq_true rfl), (Nat.le_of_ble_eq_true rfl)⟩ (fun r148 n148 h148 e148 => ?_)
            obtain ⟨rfl, rfl, S3, J3, HW3, rs3⟩ := e148
            have H := HW3.1
            obtain ⟨fs, Ha, Hf⟩ := id H.1
            have ho := HW3.2.1
            refine gi_goto (tgt := 242) C (dm_Mo_compared 84 rfl) (by decide) ?_
            exact absurd c102 c138
        · exact absurd c129 (by decide)
set_option maxHeartbeats 4000000 in
set_option maxRecDepth 100000 in
theorem ww_compared (HW : WW M k P sh md Ff κ h S0 J0 F0 G0 Z L n0 f S J F G y) (B : Built k P sh (siN k P sh) (wdF k P)) (hmd : md ≤ 2) {a : Nat} (hm : a < k) (hi : i < pN P 5 a) (hx : sh (60 * a + i) = some x) (hL : pN P 2 a = L) {op : Nat} (h20 : 20 ≤ op) (h25 : op ≤ 25) {X Y : Sp} (okX : okS X) (okY : okS Y) (hmx : (f (n0 - 2)).2 = -1 ∨ ∃ j, j < L ∧ (f (n0 - 2)).2 = nI j) (hmy : (f (n0 - 1)).2 = -1 ∨ ∃ j, j < L ∧ (f (n0 - 1)).2 = nI j) (hloc : ∀ i, i < L → (f i).2 = -1) (hg : ∀ g, opensF op (n0 - 2) f X Y (f (n0 - 2)).2 (f (n0 - 1)).2 = some g → tyG P a x (n0 - 2) g) (hn : L + 2 ≤ n0) (e1 : (f (n0 - 1)).1 = .inl Y) (e2 : (f (n0 - 2)).1 = .inl X) : gi_T l V y_Mo_compared b_Mo_compared 32 none 4 94 0 0 [.ref M, .int (nI op), .int (nI (60 * a + i))] n y (fun v n' h' => v = none ∧ n' = n ∧ spP M k P sh md Ff κ h S0 J0 F0 G0 (match opensF op (n0 - 2) f X Y (f (n0 - 2)).2 (f (n0 - 1)).2 with | none => Z | some g => comeM md (grF (wdF k P)) Z (60 * a + i, n0 - 2, g)) h') := by
  refine gi_enter (by decide) (Nat.le_of_ble_eq_true rfl) ?_
  intro _ _ _ _ _ _ _ _ C hr hnm
  have H := HW.1
  obtain ⟨fs, Ha, Hf⟩ := id H.1
  have ho := HW.2.1
  obtain ⟨f1, f2, f3, f4⟩ := HW.fb
  refine gi_aload_n (q := 1) (i := 0) C (dm_Mo_compared 0 rfl) rfl rfl rfl ?_
  refine gi_dup (q := 2) C (dm_Mo_compared 1 rfl) rfl rfl ?_
  refine gi_get (q := 5) C (dm_Mo_compared 2 rfl) rfl fl_Mo_357 Ha (mo_g58 Hf) ?_
  refine gi_iconst (q := 6) (v := 2) C (dm_Mo_compared 3 rfl) rfl (by decide) ?_
  refine gi_isub (q := 7) C (dm_Mo_compared 4 rfl) rfl ?_
  rw [HW.fb.2.2.2, nI_m2 (by omega), show n0 - L + 6 - 2 = n0 - 2 - L + 6 by omega]
  refine gi_put (q := 10) C (dm_Mo_compared 5 rfl) rfl fl_Mo_357 fp_Mo_58 Ha (by rw [Hf.1]; decide) rfl rfl ?_
  refine gi_genM (H.putI Ha Hf (by decide) rfl) (ho.up (by omega) (by omega)) (fun y H ho => ?_)
  obtain ⟨fs, Ha, Hf⟩ := id H.1
  have HW1 := HW.top (n1 := n0 - 2) (by omega) (by omega) H ho
  have f41 := HW1.fb.2.2.2
  have sx := HW.sp (show n0 - 2 < n0 by omega) e2
  have sy := HW.sp (show n0 - 1 < n0 by omega) e1
  have sm := HW.mk (show n0 - 1 < n0 by omega) (by omega)
  have sn := HW.mk (show n0 - 2 < n0 by omega) (by omega)
  rw [sl_t (by omega)] at sx sy sm sn
  refine gi_aload_n (q := 11) (i := 0) C (dm_Mo_compared 6 rfl) rfl rfl rfl ?_
  refine gi_get (q := 14) C (dm_Mo_compared 7 rfl) rfl fl_Mo_357 Ha (mo_g58 Hf) ?_
  rw [f41]
  refine gi_istore_n (q := 15) (i := 3) C (dm_Mo_compared 8 rfl) rfl rfl (Nat.le_of_ble_eq_true rfl) ?_
  refine gi_aload_n (q := 16) (i := 0) C (dm_Mo_compared 9 rfl) rfl rfl rfl ?_
  refine gi_get (q := 19) C (dm_Mo_compared 10 rfl) rfl fl_Mo_357 Ha (mo_g58 Hf) ?_
  refine gi_iconst (q := 20) (v := 1) C (dm_Mo_compared 11 rfl) rfl (by decide) ?_
  refine gi_iadd (q := 21) C (dm_Mo_compared 12 rfl) rfl ?_
  rw [f41, nI_1, show n0 - 2 - L + 6 + 1 = n0 - 1 - L + 6 by omega]
  refine gi_istore (q := 23) C (dm_Mo_compared 13 rfl) rfl (Nat.le_of_ble_eq_true rfl) ?_
  refine gi_aload_n (q := 24) (i := 0) C (dm_Mo_compared 14 rfl) rfl rfl rfl ?_
  refine gi_get (q := 27) C (dm_Mo_compared 15 rfl) rfl fl_Mo_104 Ha (mo_g52 Hf) ?_
  refine gi_iload_n (q := 28) (i := 3) C (dm_Mo_compared 16 rfl) rfl rfl rfl ?_
  refine gi_lald (q := 29) C (dm_Mo_compared 17 rfl) rfl rfl (mo_a52 H) (inN (show n0 - 2 - L + 6 < 14 by omega) (by decide)) ?_
  rw [nI_clamp (show n0 - 2 - L + 6 < 2 ^ 31 by omega), sx.1]
  refine gi_lstore (q := 31) C (dm_Mo_compared 18 rfl) rfl (Nat.le_of_ble_eq_true rfl) ?_
  refine gi_aload_n (q := 32) (i := 0) C (dm_Mo_compared 19 rfl) rfl rfl rfl ?_
  refine gi_get (q := 35) C (dm_Mo_compared 20 rfl) rfl fl_Mo_107 Ha (mo_g53 Hf) ?_
  refine gi_iload_n (q := 36) (i := 3) C (dm_Mo_compared 21 rfl) rfl rfl rfl ?_
  refine gi_lald (q := 37) C (dm_Mo_compared 22 rfl) rfl rfl (mo_a53 H) (inN (show n0 - 2 - L + 6 < 14 by omega) (by decide)) ?_
  rw [nI_clamp (show n0 - 2 - L + 6 < 2 ^ 31 by omega), sx.2.1]
  refine gi_lstore (q := 39) C (dm_Mo_compared 23 rfl) rfl (Nat.le_of_ble_eq_true rfl) ?_
  refine gi_aload_n (q := 40) (i := 0) C (dm_Mo_compared 24 rfl) rfl rfl rfl ?_
  refine gi_get (q := 43) C (dm_Mo_compared 25 rfl) rfl fl_Mo_110 Ha (mo_g54 Hf) ?_
  refine gi_iload_n (q := 44) (i := 3) C (dm_Mo_compared 26 rfl) rfl rfl rfl ?_
  refine gi_lald (q := 45) C (dm_Mo_compared 27 rfl) rfl rfl (mo_a54 H) (inN (show n0 - 2 - L + 6 < 14 by omega) (by decide)) ?_
  rw [nI_clamp (show n0 - 2 - L + 6 < 2 ^ 31 by omega), sx.2.2]
  refine gi_lstore (q := 47) C (dm_Mo_compared 28 rfl) rfl (Nat.le_of_ble_eq_true rfl) ?_
  refine gi_aload_n (q := 48) (i := 0) C (dm_Mo_compared 29 rfl) rfl rfl rfl ?_
  refine gi_get (q := 51) C (dm_Mo_compared 30 rfl) rfl fl_Mo_104 Ha (mo_g52 Hf) ?_
  refine gi_iload (q := 53) C (dm_Mo_compared 31 rfl) rfl rfl ?_
  refine gi_lald (q := 54) C (dm_Mo_compared 32 rfl) rfl rfl (mo_a52 H) (inN (show n0 - 1 - L + 6 < 14 by omega) (by decide)) ?_
  rw [nI_clamp (show n0 - 1 - L + 6 < 2 ^ 31 by omega), sy.1]
  refine gi_lstore (q := 56) C (dm_Mo_compared 33 rfl) rfl (Nat.le_of_ble_eq_true rfl) ?_
  refine gi_aload_n (q := 57) (i := 0) C (dm_Mo_compared 34 rfl) rfl rfl rfl ?_
  refine gi_get (q := 60) C (dm_Mo_compared 35 rfl) rfl fl_Mo_107 Ha (mo_g53 Hf) ?_
  refine gi_iload (q := 62) C (dm_Mo_compared 36 rfl) rfl rfl ?_
  refine gi_lald (q := 63) C (dm_Mo_compared 37 rfl) rfl rfl (mo_a53 H) (inN (show n0 - 1 - L + 6 < 14 by omega) (by decide)) ?_
  rw [nI_clamp (show n0 - 1 - L + 6 < 2 ^ 31 by omega), sy.2.1]
  refine gi_lstore (q := 65) C (dm_Mo_compared 38 rfl) rfl (Nat.le_of_ble_eq_true rfl) ?_
  refine gi_aload_n (q := 66) (i := 0) C (dm_Mo_compared 39 rfl) rfl rfl rfl ?_
  refine gi_get (q := 69) C (dm_Mo_compared 40 rfl) rfl fl_Mo_110 Ha (mo_g54 Hf) ?_
  refine gi_iload (q := 71) C (dm_Mo_compared 41 rfl) rfl rfl ?_
  refine gi_lald (q := 72) C (dm_Mo_compared 42 rfl) rfl rfl (mo_a54 H) (inN (show n0 - 1 - L + 6 < 14 by omega) (by decide)) ?_
  rw [nI_clamp (show n0 - 1 - L + 6 < 2 ^ 31 by omega), sy.2.2]
  refine gi_lstore (q := 74) C (dm_Mo_compared 43 rfl) rfl (Nat.le_of_ble_eq_true rfl) ?_
  refine gi_aload_n (q := 75) (i := 0) C (dm_Mo_compared 44 rfl) rfl rfl rfl ?_
  refine gi_get (q := 78) C (dm_Mo_compared 45 rfl) rfl fl_Mo_119 Ha (mo_g57 Hf) ?_
  refine gi_iload_n (q := 79) (i := 3) C (dm_Mo_compared 46 rfl) rfl rfl rfl ?_
  refine gi_iald (q := 80) C (dm_Mo_compared 47 rfl) rfl rfl (mo_a57 H) (inN (show n0 - 2 - L + 6 < 14 by omega) (by decide)) ?_
  rw [nI_clamp (show n0 - 2 - L + 6 < 2 ^ 31 by omega), sn]
  refine gi_istore (q := 82) C (dm_Mo_compared 48 rfl) rfl (Nat.le_of_ble_eq_true rfl) ?_
  refine gi_aload_n (q := 83) (i := 0) C (dm_Mo_compared 49 rfl) rfl rfl rfl ?_
  refine gi_get (q := 86) C (dm_Mo_compared 50 rfl) rfl fl_Mo_119 Ha (mo_g57 Hf) ?_
  refine gi_iload (q := 88) C (dm_Mo_compared 51 rfl) rfl rfl ?_
  refine gi_iald (q := 89) C (dm_Mo_compared 52 rfl) rfl rfl (mo_a57 H) (inN (show n0 - 1 - L + 6 < 14 by omega) (by decide)) ?_
  rw [nI_clamp (show n0 - 1 - L + 6 < 2 ^ 31 by omega), sm]
  refine gi_istore (q := 91) C (dm_Mo_compared 53 rfl) rfl (Nat.le_of_ble_eq_true rfl) ?_
  refine gi_close (cmp_1 C hr HW1 B hmd hm hi hx hL h20 h25 okX okY hmx hmy hloc hg) (List.forall_mem_cons.mpr ⟨rfl, List.forall_mem_cons.mpr ⟨rfl, List.forall_mem_cons.mpr ⟨rfl, List.forall_mem_cons.mpr ⟨rfl, List.forall_mem_cons.mpr ⟨rfl, List.forall_mem_cons.mpr ⟨rfl, List.forall_mem_cons.mpr ⟨rfl, List.forall_mem_cons.mpr ⟨rfl, List.forall_mem_cons.mpr ⟨rfl, List.forall_mem_cons.mpr ⟨rfl, List.forall_mem_cons.mpr ⟨rfl, fun _ h => absurd h List.not_mem_nil⟩⟩⟩⟩⟩⟩⟩⟩⟩⟩⟩) rfl rfl rfl
end RCA
