set_option maxRecDepth 100000 in
set_option maxHeartbeats 4000000 in
theorem k_runPa (l : Launch) (D : va_G) (q : Nat → ClassId) (tt : Nat → Nat) (a : Nat → Nat) (g : GC) (c0 : Nat) (kd : Nat) (x : Int32) (d : Nat) (hc : gN g = nI c0) (hc30 : c0 ≤ 30) (hkd : gK g = nI kd) (hk5 : kd ≤ 5) (hpz : gP g = 0) (hd : d + 4 ≤ 13) : MI l D q tt yX2_run wsX2_run ({ frames := 5, cells := 0, slots := 0, locals := 122 } : Room) [.ref (a 0), .int (nI kd), .int 2, .int x, .int (nI d)] (sw q a g) (fun (r : Int32) (u : Unit) => r = (aPa (gU g) (gE g) kd x ((gB g), c0)).1) (fun (_ : Unit) => (sw q a (((aPa (gU g) (gE g) kd x ((gB g), c0)).2.1.1), (nI (aPa (gU g) (gE g) kd x ((gB g), c0)).2.1.2), (gK g), (gU g), (gE g), ((aPa (gU g) (gE g) kd x ((gB g), c0)).2.2)))) 0 0 := by
  have h6_ : kd = 0 ∨ kd = 1 ∨ kd = 2 ∨ kd = 3 ∨ kd = 4 ∨ kd = 5 := by omega
  rcases h6_ with rfl | rfl | rfl | rfl | rfl | rfl
  · exact k_run12 l D q tt a g c0 0 2 x d hc hc30 hpz (by omega) (by omega) rfl (by omega)
  · exact k_run12 l D q tt a g c0 1 2 x d hc hc30 hpz (by omega) (by omega) rfl (by omega)
  · exact k_run12 l D q tt a g c0 2 2 x d hc hc30 hpz (by omega) (by omega) rfl (by omega)
  · exact k_run50 l D q tt a g c0 3 2 x d hc hc30 hpz (by omega) (by omega) rfl (by omega)
  · exact k_run12 l D q tt a g c0 4 2 x d hc hc30 hpz (by omega) (by omega) rfl (by omega)
  · exact k_run61 l D q tt a g c0 5 5 2 x d hc hc30 hkd hk5 hpz (by omega) (by omega) rfl (by omega)

