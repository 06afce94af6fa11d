section MO1
variable {M : Nat} {S : Nat → Int32} {J : Nat → Int64} {F : Nat → Nat → Int32} {G : Nat → Nat → Int64} {h : gi_H} {fs : List Value}
/-- one array is another -/
def upA {α : Type} (F : Nat → Nat → α) (k : Nat) (g : Nat → α) : Nat → Nat → α := fun j => if j = k then g else F j
theorem upA_self {α : Type} (F : Nat → Nat → α) (k : Nat) (g : Nat → α) : upA F k g k = g := by simp [upA]
theorem upA_ne {α : Type} {F : Nat → Nat → α} {k j : Nat} {g : Nat → α} (h : j ≠ k) : upA F k g j = F j := by simp [upA, h]
def upL (S : Nat → Int64) (k : Nat) (x : Int64) : Nat → Int64 := fun j => if j = k then x else S j
theorem mo_g0 (H : mo_is fs (mo_fv M S J)) : fs[0]? = some (.int (S 0)) := H.2 0 (by decide)
theorem mo_g1 (H : mo_is fs (mo_fv M S J)) : fs[1]? = some (.ref (M + 1)) := H.2 1 (by decide)
theorem mo_g2 (H : mo_is fs (mo_fv M S J)) : fs[2]? = some (.ref (M + 2)) := H.2 2 (by decide)
theorem mo_g3 (H : mo_is fs (mo_fv M S J)) : fs[3]? = some (.ref (M + 3)) := H.2 3 (by decide)
theorem mo_g4 (H : mo_is fs (mo_fv M S J)) : fs[4]? = some (.ref (M + 4)) := H.2 4 (by decide)
theorem mo_g5 (H : mo_is fs (mo_fv M S J)) : fs[5]? = some (.ref (M + 5)) := H.2 5 (by decide)
theorem mo_g6 (H : mo_is fs (mo_fv M S J)) : fs[6]? = some (.ref (M + 6)) := H.2 6 (by decide)
theorem mo_g7 (H : mo_is fs (mo_fv M S J)) : fs[7]? = some (.ref (M + 7)) := H.2 7 (by decide)
theorem mo_g8 (H : mo_is fs (mo_fv M S J)) : fs[8]? = some (.int (S 8)) := H.2 8 (by decide)
theorem mo_g9 (H : mo_is fs (mo_fv M S J)) : fs[9]? = some (.int (S 9)) := H.2 9 (by decide)
theorem mo_g10 (H : mo_is fs (mo_fv M S J)) : fs[10]? = some (.int (S 10)) := H.2 10 (by decide)
theorem mo_g11 (H : mo_is fs (mo_fv M S J)) : fs[11]? = some (.int (S 11)) := H.2 11 (by decide)
theorem mo_g12 (H : mo_is fs (mo_fv M S J)) : fs[12]? = some (.ref (M + 8)) := H.2 12 (by decide)
theorem mo_g13 (H : mo_is fs (mo_fv M S J)) : fs[13]? = some (.ref (M + 9)) := H.2 13 (by decide)
theorem mo_g14 (H : mo_is fs (mo_fv M S J)) : fs[14]? = some (.ref (M + 10)) := H.2 14 (by decide)
theorem mo_g15 (H : mo_is fs (mo_fv M S J)) : fs[15]? = some (.ref (M + 11)) := H.2 15 (by decide)
theorem mo_g16 (H : mo_is fs (mo_fv M S J)) : fs[16]? = some (.ref (M + 12)) := H.2 16 (by decide)
theorem mo_g17 (H : mo_is fs (mo_fv M S J)) : fs[17]? = some (.ref (M + 13)) := H.2 17 (by decide)
theorem mo_g18 (H : mo_is fs (mo_fv M S J)) : fs[18]? = some (.int (S 18)) := H.2 18 (by decide)
theorem mo_g19 (H : mo_is fs (mo_fv M S J)) : fs[19]? = some (.int (S 19)) := H.2 19 (by decide)
theorem mo_g20 (H : mo_is fs (mo_fv M S J)) : fs[20]? = some (.int (S 20)) := H.2 20 (by decide)
theorem mo_g21 (H : mo_is fs (mo_fv M S J)) : fs[21]? = some (.int (S 21)) := H.2 21 (by decide)
theorem mo_g22 (H : mo_is fs (mo_fv M S J)) : fs[22]? = some (.long (J 22)) := H.2 22 (by decide)
theorem mo_g23 (H : mo_is fs (mo_fv M S J)) : fs[23]? = some (.long (J 23)) := H.2 23 (by decide)
theorem mo_g24 (H : mo_is fs (mo_fv M S J)) : fs[24]? = some (.long (J 24)) := H.2 24 (by decide)
theorem mo_g25 (H : mo_is fs (mo_fv M S J)) : fs[25]? = some (.long (J 25)) := H.2 25 (by decide)
theorem mo_g26 (H : mo_is fs (mo_fv M S J)) : fs[26]? = some (.long (J 26)) := H.2 26 (by decide)
theorem mo_g27 (H : mo_is fs (mo_fv M S J)) : fs[27]? = some (.long (J 27)) := H.2 27 (by decide)
theorem mo_g28 (H : mo_is fs (mo_fv M S J)) : fs[28]? = some (.long (J 28)) := H.2 28 (by decide)
theorem mo_g29 (H : mo_is fs (mo_fv M S J)) : fs[29]? = some (.int (S 29)) := H.2 29 (by decide)
theorem mo_g30 (H : mo_is fs (mo_fv M S J)) : fs[30]? = some (.int (S 30)) := H.2 30 (by decide)
theorem mo_g31 (H : mo_is fs (mo_fv M S J)) : fs[31]? = some (.ref (M + 14)) := H.2 31 (by decide)
theorem mo_g32 (H : mo_is fs (mo_fv M S J)) : fs[32]? = some (.ref (M + 15)) := H.2 32 (by decide)
theorem mo_g33 (H : mo_is fs (mo_fv M S J)) : fs[33]? = some (.ref (M + 16)) := H.2 33 (by decide)
theorem mo_g34 (H : mo_is fs (mo_fv M S J)) : fs[34]? = some (.ref (M + 17)) := H.2 34 (by decide)
theorem mo_g35 (H : mo_is fs (mo_fv M S J)) : fs[35]? = some (.ref (M + 18)) := H.2 35 (by decide)
theorem mo_g36 (H : mo_is fs (mo_fv M S J)) : fs[36]? = some (.ref (M + 19)) := H.2 36 (by decide)
theorem mo_g37 (H : mo_is fs (mo_fv M S J)) : fs[37]? = some (.ref (M + 20)) := H.2 37 (by decide)
theorem mo_g38 (H : mo_is fs (mo_fv M S J)) : fs[38]? = some (.ref (M + 21)) := H.2 38 (by decide)
theorem mo_g39 (H : mo_is fs (mo_fv M S J)) : fs[39]? = some (.ref (M + 22)) := H.2 39 (by decide)
theorem mo_g40 (H : mo_is fs (mo_fv M S J)) : fs[40]? = some (.ref (M + 23)) := H.2 40 (by decide)
theorem mo_g41 (H : mo_is fs (mo_fv M S J)) : fs[41]? = some (.ref (M + 24)) := H.2 41 (by decide)
theorem mo_g42 (H : mo_is fs (mo_fv M S J)) : fs[42]? = some (.ref (M + 25)) := H.2 42 (by decide)
theorem mo_g43 (H : mo_is fs (mo_fv M S J)) : fs[43]? = some (.ref (M + 26)) := H.2 43 (by decide)
theorem mo_g44 (H : mo_is fs (mo_fv M S J)) : fs[44]? = some (.ref (M + 27)) := H.2 44 (by decide)
theorem mo_g45 (H : mo_is fs (mo_fv M S J)) : fs[45]? = some (.ref (M + 28)) := H.2 45 (by decide)
theorem mo_g46 (H : mo_is fs (mo_fv M S J)) : fs[46]? = some (.int (S 46)) := H.2 46 (by decide)
theorem mo_g47 (H : mo_is fs (mo_fv M S J)) : fs[47]? = some (.int (S 47)) := H.2 47 (by decide)
theorem mo_g48 (H : mo_is fs (mo_fv M S J)) : fs[48]? = some (.int (S 48)) := H.2 48 (by decide)
theorem mo_g49 (H : mo_is fs (mo_fv M S J)) : fs[49]? = some (.int (S 49)) := H.2 49 (by decide)
theorem mo_g50 (H : mo_is fs (mo_fv M S J)) : fs[50]? = some (.int (S 50)) := H.2 50 (by decide)
theorem mo_g51 (H : mo_is fs (mo_fv M S J)) : fs[51]? = some (.int (S 51)) := H.2 51 (by decide)
theorem mo_g52 (H : mo_is fs (mo_fv M S J)) : fs[52]? = some (.ref (M + 29)) := H.2 52 (by decide)
theorem mo_g53 (H : mo_is fs (mo_fv M S J)) : fs[53]? = some (.ref (M + 30)) := H.2 53 (by decide)
theorem mo_g54 (H : mo_is fs (mo_fv M S J)) : fs[54]? = some (.ref (M + 31)) := H.2 54 (by decide)
theorem mo_g55 (H : mo_is fs (mo_fv M S J)) : fs[55]? = some (.ref (M + 32)) := H.2 55 (by decide)
theorem mo_g56 (H : mo_is fs (mo_fv M S J)) : fs[56]? = some (.ref (M + 33)) := H.2 56 (by decide)
theorem mo_g57 (H : mo_is fs (mo_fv M S J)) : fs[57]? = some (.ref (M + 34)) := H.2 57 (by decide)
theorem mo_g58 (H : mo_is fs (mo_fv M S J)) : fs[58]? = some (.int (S 58)) := H.2 58 (by decide)
theorem mo_g59 (H : mo_is fs (mo_fv M S J)) : fs[59]? = some (.int (S 59)) := H.2 59 (by decide)
theorem mo_g60 (H : mo_is fs (mo_fv M S J)) : fs[60]? = some (.ref (M + 35)) := H.2 60 (by decide)
theorem mo_g61 (H : mo_is fs (mo_fv M S J)) : fs[61]? = some (.ref (M + 36)) := H.2 61 (by decide)
theorem mo_g62 (H : mo_is fs (mo_fv M S J)) : fs[62]? = some (.ref (M + 37)) := H.2 62 (by decide)
theorem mo_g63 (H : mo_is fs (mo_fv M S J)) : fs[63]? = some (.ref (M + 38)) := H.2 63 (by decide)
theorem mo_g64 (H : mo_is fs (mo_fv M S J)) : fs[64]? = some (.ref (M + 39)) := H.2 64 (by decide)
theorem mo_g65 (H : mo_is fs (mo_fv M S J)) : fs[65]? = some (.ref (M + 40)) := H.2 65 (by decide)
theorem mo_g66 (H : mo_is fs (mo_fv M S J)) : fs[66]? = some (.int (S 66)) := H.2 66 (by decide)
theorem mo_g67 (H : mo_is fs (mo_fv M S J)) : fs[67]? = some (.int (S 67)) := H.2 67 (by decide)
theorem mo_g68 (H : mo_is fs (mo_fv M S J)) : fs[68]? = some (.ref (M + 41)) := H.2 68 (by decide)
theorem mo_g69 (H : mo_is fs (mo_fv M S J)) : fs[69]? = some (.ref (M + 42)) := H.2 69 (by decide)
theorem mo_g70 (H : mo_is fs (mo_fv M S J)) : fs[70]? = some (.ref (M + 43)) := H.2 70 (by decide)
theorem mo_g71 (H : mo_is fs (mo_fv M S J)) : fs[71]? = some (.ref (M + 44)) := H.2 71 (by decide)
theorem mo_g72 (H : mo_is fs (mo_fv M S J)) : fs[72]? = some (.ref (M + 45)) := H.2 72 (by decide)
theorem mo_g73 (H : mo_is fs (mo_fv M S J)) : fs[73]? = some (.ref (M + 46)) := H.2 73 (by decide)
theorem mo_g74 (H : mo_is fs (mo_fv M S J)) : fs[74]? = some (.ref (M + 47)) := H.2 74 (by decide)
theorem mo_g75 (H : mo_is fs (mo_fv M S J)) : fs[75]? = some (.int (S 75)) := H.2 75 (by decide)
theorem mo_g76 (H : mo_is fs (mo_fv M S J)) : fs[76]? = some (.int (S 76)) := H.2 76 (by decide)
theorem mo_g77 (H : mo_is fs (mo_fv M S J)) : fs[77]? = some (.ref (M + 48)) := H.2 77 (by decide)
theorem mo_g78 (H : mo_is fs (mo_fv M S J)) : fs[78]? = some (.ref (M + 49)) := H.2 78 (by decide)
theorem mo_g79 (H : mo_is fs (mo_fv M S J)) : fs[79]? = some (.ref (M + 50)) := H.2 79 (by decide)
theorem mo_g80 (H : mo_is fs (mo_fv M S J)) : fs[80]? = some (.ref (M + 51)) := H.2 80 (by decide)
theorem mo_g81 (H : mo_is fs (mo_fv M S J)) : fs[81]? = some (.int (S 81)) := H.2 81 (by decide)
theorem mo_g82 (H : mo_is fs (mo_fv M S J)) : fs[82]? = some (.int (S 82)) := H.2 82 (by decide)
theorem mo_g83 (H : mo_is fs (mo_fv M S J)) : fs[83]? = some (.int (S 83)) := H.2 83 (by decide)
theorem mo_g84 (H : mo_is fs (mo_fv M S J)) : fs[84]? = some (.int (S 84)) := H.2 84 (by decide)
theorem mo_g85 (H : mo_is fs (mo_fv M S J)) : fs[85]? = some (.int (S 85)) := H.2 85 (by decide)
theorem mo_g86 (H : mo_is fs (mo_fv M S J)) : fs[86]? = some (.long (J 86)) := H.2 86 (by decide)
theorem mo_g87 (H : mo_is fs (mo_fv M S J)) : fs[87]? = some (.int (S 87)) := H.2 87 (by decide)
theorem mo_g88 (H : mo_is fs (mo_fv M S J)) : fs[88]? = some (.int (S 88)) := H.2 88 (by decide)
theorem mo_a1 (H : mo_at M S J F G h) : h (M + 1) = some (gi_I 0 8 (F 1)) := H.2 0 (by decide)
theorem mo_a2 (H : mo_at M S J F G h) : h (M + 2) = some (gi_I 0 8 (F 2)) := H.2 1 (by decide)
theorem mo_a3 (H : mo_at M S J F G h) : h (M + 3) = some (gi_I 0 8 (F 3)) := H.2 2 (by decide)
theorem mo_a4 (H : mo_at M S J F G h) : h (M + 4) = some (gi_I 0 8 (F 4)) := H.2 3 (by decide)
theorem mo_a5 (H : mo_at M S J F G h) : h (M + 5) = some (gi_I 0 8 (F 5)) := H.2 4 (by decide)
theorem mo_a6 (H : mo_at M S J F G h) : h (M + 6) = some (gi_I 0 480 (F 6)) := H.2 5 (by decide)
theorem mo_a7 (H : mo_at M S J F G h) : h (M + 7) = some (gi_I 0 480 (F 7)) := H.2 6 (by decide)
theorem mo_a12 (H : mo_at M S J F G h) : h (M + 8) = some (gi_I 0 480 (F 12)) := H.2 7 (by decide)
theorem mo_a13 (H : mo_at M S J F G h) : h (M + 9) = some (gi_I 0 480 (F 13)) := H.2 8 (by decide)
theorem mo_a14 (H : mo_at M S J F G h) : h (M + 10) = some (gi_I 1 480 (F 14)) := H.2 9 (by decide)
theorem mo_a15 (H : mo_at M S J F G h) : h (M + 11) = some (gi_I 0 480 (F 15)) := H.2 10 (by decide)
theorem mo_a16 (H : mo_at M S J F G h) : h (M + 12) = some (gi_I 1 480 (F 16)) := H.2 11 (by decide)
theorem mo_a17 (H : mo_at M S J F G h) : h (M + 13) = some (gi_I 0 26 (F 17)) := H.2 12 (by decide)
theorem mo_a31 (H : mo_at M S J F G h) : h (M + 14) = some (gi_I 1 960 (F 31)) := H.2 13 (by decide)
theorem mo_a32 (H : mo_at M S J F G h) : h (M + 15) = some (gi_J 2 13440 (G 32)) := H.2 14 (by decide)
theorem mo_a33 (H : mo_at M S J F G h) : h (M + 16) = some (gi_J 2 13440 (G 33)) := H.2 15 (by decide)
theorem mo_a34 (H : mo_at M S J F G h) : h (M + 17) = some (gi_J 2 13440 (G 34)) := H.2 16 (by decide)
theorem mo_a35 (H : mo_at M S J F G h) : h (M + 18) = some (gi_I 0 13440 (F 35)) := H.2 17 (by decide)
theorem mo_a36 (H : mo_at M S J F G h) : h (M + 19) = some (gi_I 1 13440 (F 36)) := H.2 18 (by decide)
theorem mo_a37 (H : mo_at M S J F G h) : h (M + 20) = some (gi_I 3 13440 (F 37)) := H.2 19 (by decide)
theorem mo_a38 (H : mo_at M S J F G h) : h (M + 21) = some (gi_I 0 480 (F 38)) := H.2 20 (by decide)
theorem mo_a39 (H : mo_at M S J F G h) : h (M + 22) = some (gi_I 1 160 (F 39)) := H.2 21 (by decide)
theorem mo_a40 (H : mo_at M S J F G h) : h (M + 23) = some (gi_J 2 160 (G 40)) := H.2 22 (by decide)
theorem mo_a41 (H : mo_at M S J F G h) : h (M + 24) = some (gi_J 2 160 (G 41)) := H.2 23 (by decide)
theorem mo_a42 (H : mo_at M S J F G h) : h (M + 25) = some (gi_J 2 160 (G 42)) := H.2 24 (by decide)
theorem mo_a43 (H : mo_at M S J F G h) : h (M + 26) = some (gi_I 0 160 (F 43)) := H.2 25 (by decide)
theorem mo_a44 (H : mo_at M S J F G h) : h (M + 27) = some (gi_I 1 160 (F 44)) := H.2 26 (by decide)
theorem mo_a45 (H : mo_at M S J F G h) : h (M + 28) = some (gi_I 0 80 (F 45)) := H.2 27 (by decide)
theorem mo_a52 (H : mo_at M S J F G h) : h (M + 29) = some (gi_J 2 14 (G 52)) := H.2 28 (by decide)
theorem mo_a53 (H : mo_at M S J F G h) : h (M + 30) = some (gi_J 2 14 (G 53)) := H.2 29 (by decide)
theorem mo_a54 (H : mo_at M S J F G h) : h (M + 31) = some (gi_J 2 14 (G 54)) := H.2 30 (by decide)
theorem mo_a55 (H : mo_at M S J F G h) : h (M + 32) = some (gi_I 0 14 (F 55)) := H.2 31 (by decide)
theorem mo_a56 (H : mo_at M S J F G h) : h (M + 33) = some (gi_I 1 14 (F 56)) := H.2 32 (by decide)
theorem mo_a57 (H : mo_at M S J F G h) : h (M + 34) = some (gi_I 0 14 (F 57)) := H.2 33 (by decide)
theorem mo_a60 (H : mo_at M S J F G h) : h (M + 35) = some (gi_J 2 14 (G 60)) := H.2 34 (by decide)
theorem mo_a61 (H : mo_at M S J F G h) : h (M + 36) = some (gi_J 2 14 (G 61)) := H.2 35 (by decide)
theorem mo_a62 (H : mo_at M S J F G h) : h (M + 37) = some (gi_J 2 14 (G 62)) := H.2 36 (by decide)
theorem mo_a63 (H : mo_at M S J F G h) : h (M + 38) = some (gi_I 0 14 (F 63)) := H.2 37 (by decide)
theorem mo_a64 (H : mo_at M S J F G h) : h (M + 39) = some (gi_I 1 14 (F 64)) := H.2 38 (by decide)
theorem mo_a65 (H : mo_at M S J F G h) : h (M + 40) = some (gi_I 0 14 (F 65)) := H.2 39 (by decide)
theorem mo_a68 (H : mo_at M S J F G h) : h (M + 41) = some (gi_I 0 3 (F 68)) := H.2 40 (by decide)
theorem mo_a69 (H : mo_at M S J F G h) : h (M + 42) = some (gi_I 0 3 (F 69)) := H.2 41 (by decide)
theorem mo_a70 (H : mo_at M S J F G h) : h (M + 43) = some (gi_I 0 600 (F 70)) := H.2 42 (by decide)
theorem mo_a71 (H : mo_at M S J F G h) : h (M + 44) = some (gi_I 0 2000 (F 71)) := H.2 43 (by decide)
theorem mo_a72 (H : mo_at M S J F G h) : h (M + 45) = some (gi_I 0 301 (F 72)) := H.2 44 (by decide)
theorem mo_a73 (H : mo_at M S J F G h) : h (M + 46) = some (gi_I 0 301 (F 73)) := H.2 45 (by decide)
theorem mo_a74 (H : mo_at M S J F G h) : h (M + 47) = some (gi_I 0 301 (F 74)) := H.2 46 (by decide)
theorem mo_a77 (H : mo_at M S J F G h) : h (M + 48) = some (gi_I 0 4 (F 77)) := H.2 47 (by decide)
theorem mo_a78 (H : mo_at M S J F G h) : h (M + 49) = some (gi_I 0 224 (F 78)) := H.2 48 (by decide)
theorem mo_a79 (H : mo_at M S J F G h) : h (M + 50) = some (gi_I 0 16 (F 79)) := H.2 49 (by decide)
theorem mo_a80 (H : mo_at M S J F G h) : h (M + 51) = some (gi_I 0 16 (F 80)) := H.2 50 (by decide)
theorem mo_fk_inj : ∀ i, i < 51 → ∀ j, j < 51 → mo_fk i = mo_fk j → i = j := by decide +kernel
theorem mo_at.putI {k : Nat} {x : Int32} (H : mo_at M S J F G h) (Ha : h M = some (gi_O 12 fs)) (Hf : mo_is fs (mo_fv M S J)) (hk : k < 89) (h0 : mo_k k = 0) : mo_at M (upS S k x) J F G (gi_up h M (gi_O 12 (fs.set k (.int x)))) := by
  refine ⟨⟨_, gi_up_self _ _ _, Hf.set hk ?_ fun j hj hne => ?_⟩, fun j hj => ?_⟩
  · unfold mo_fv
    rw [h0]
    show Value.int (upS S k x k) = _
    simp [upS]
  · unfold mo_fv
    split
    · rfl
    · rfl
    · simp [upS, hne]
  · rw [gi_up_ne (by omega)]; exact H.2 j hj
theorem mo_at.putJ {k : Nat} {x : Int64} (H : mo_at M S J F G h) (Ha : h M = some (gi_O 12 fs)) (Hf : mo_is fs (mo_fv M S J)) (hk : k < 89) (h0 : mo_k k = 2) : mo_at M S (upL J k x) F G (gi_up h M (gi_O 12 (fs.set k (.long x)))) := by
  refine ⟨⟨_, gi_up_self _ _ _, Hf.set hk ?_ fun j hj hne => ?_⟩, fun j hj => ?_⟩
  · unfold mo_fv
    rw [h0]
    show Value.long (upL J k x k) = _
    simp [upL]
  · unfold mo_fv
    split
    · rfl
    · simp [upL, hne]
    · rfl
  · rw [gi_up_ne (by omega)]; exact H.2 j hj
theorem mo_at.setI {a p k d N : Nat} {g : Nat → Int32} (H : mo_at M S J F G h) (hp : p < 51) (hk : mo_fk p = k) (hd : mo_kd p = d) (hd2 : d ≠ 2) (hN : mo_len p = N) (ha : a = M + 1 + p) : mo_at M S J (upA F k g) G (gi_up h a (gi_I d N g)) := by
  subst ha
  obtain ⟨⟨fs, h1, h2⟩, h3⟩ := H
  refine ⟨⟨fs, by rw [gi_up_ne (by omega)]; exact h1, h2⟩, fun j hj => ?_⟩
  by_cases e : j = p
  · subst e
    rw [gi_up_self]
    unfold mo_ar
    rw [hd, hN, hk, upA_self]
    split
    · exact absurd rfl hd2
    · rfl
  · rw [gi_up_ne (by omega), h3 j hj]
    unfold mo_ar
    rw [upA_ne (fun q => e (mo_fk_inj j hj p hp (by rw [q, hk])))]
theorem mo_at.setJ {a p k N : Nat} {g : Nat → Int64} (H : mo_at M S J F G h) (hp : p < 51) (hk : mo_fk p = k) (hd : mo_kd p = 2) (hN : mo_len p = N) (ha : a = M + 1 + p) : mo_at M S J F (upA G k g) (gi_up h a (gi_J 2 N g)) := by
  subst ha
  obtain ⟨⟨fs, h1, h2⟩, h3⟩ := H
  refine ⟨⟨fs, by rw [gi_up_ne (by omega)]; exact h1, h2⟩, fun j hj => ?_⟩
  by_cases e : j = p
  · subst e
    rw [gi_up_self]
    unfold mo_ar
    rw [hd, hN, hk, upA_self]
    rfl
  · rw [gi_up_ne (by omega), h3 j hj]
    unfold mo_ar
    rw [upA_ne (fun q => e (mo_fk_inj j hj p hp (by rw [q, hk])))]
theorem mo_at.keep {h' : gi_H} (H : mo_at M S J F G h) (hq : ∀ b, M ≤ b → b < M + 52 → h' b = h b) : mo_at M S J F G h' := by
  obtain ⟨⟨fs, h1, h2⟩, h3⟩ := H
  exact ⟨⟨fs, by rw [hq _ (by omega) (by omega)]; exact h1, h2⟩, fun j hj => by rw [hq _ (by omega) (by omega)]; exact h3 j hj⟩
end MO1
