-- needs: 94.pa4
section PA5
variable {l : Launch} {V : gi_V} {X Lx : Nat} {xs : Nat → Int32}
theorem q_ob {i : Nat} {h : gi_H} (hj : q_J X i h) : ∃ fs, h X = some (gi_O 0 fs) := by
  obtain ⟨k, P, sh, bb, cb, cr, BS, BF, Fz, c, Gs, Ga, sx, Jj, S, J, F, G, C, -⟩ := hj
  exact ⟨_, C.1⟩
/-- every pair of calls answers alike, and keeps the invariant -/
theorem q_key : lw_owed l V X Lx xs (q_J X) := ⟨fun h h1 h2 => q_0 h1 h2 0, fun k h hj => q_ob hj, fun k h _ hj => hj, fun k h _ hj => pp_0 hj, fun k h _ hj => pp_1 hj, fun k h _ hj => pp_2 hj, fun k h _ hj => pp_3 hj, fun k h _ hj => pp_4 hj, fun k h _ hj => pp_5 hj, fun k h _ hj => pp_6 hj, fun k h _ hj => pp_7 hj, fun k h _ hj => pp_8 hj, fun k h _ hj => pp_9 hj, fun k h _ hj => pp_10 hj, fun k h _ hj => pp_11 hj, fun k h _ hj => pp_12 hj, fun k h _ hj => pp_13 hj, fun k h _ hj => pp_14 hj, fun k h _ hj => pp_15 hj, fun k h _ hj => pp_16 hj, fun k h _ hj => pp_17 hj, fun k h _ hj => pp_18 hj, fun k h _ hj => pp_19 hj, fun k h _ hj => pp_20 hj, fun k h _ hj => pp_21 hj⟩
end PA5
