/-! told, status against the state -/
def spTold (σ : aS) (x : Int32) : Int32 × aS := (if x = 0 then σ.2.2.2.2.2.2.1 else if x = 1 then σ.2.2.2.2.2.2.2 else -1000001, σ)
def spStatus (σ : aS) : Int32 × aS := (σ.2.2.2.2.1, σ)
theorem t_mtold (l : Launch) (cy : Nat → ClassId) (ad : Nat → Nat) (iv : Nat → Int32) (ia : Nat → Nat → Int32) (la : Nat → Nat → Int64) (σ : aS) (hI : mInv σ iv ia la) (x : Int32) : gw_M l kX12_told cy [.ref (ad 0), .int x] (mW cy ad iv ia la) (mPost cy ad (spTold σ x)) := (c_mtold l cy ad iv ia la x).less (fun r w' h => by
  obtain ⟨rfl, rfl⟩ := h
  refine ⟨?_, iv, ia, la, rfl, hI⟩
  unfold spTold
  rw [hI.2.2.2.2.2.2.1, hI.2.2.2.2.2.2.2])
theorem t_mstatus (l : Launch) (cy : Nat → ClassId) (ad : Nat → Nat) (iv : Nat → Int32) (ia : Nat → Nat → Int32) (la : Nat → Nat → Int64) (σ : aS) (hI : mInv σ iv ia la) : gw_M l kX12_status cy [.ref (ad 0)] (mW cy ad iv ia la) (mPost cy ad (spStatus σ)) := (c_mstatus l cy ad iv ia la).less (fun r w' h => by
  obtain ⟨rfl, rfl⟩ := h
  refine ⟨?_, iv, ia, la, rfl, hI⟩
  unfold spStatus
  rw [hI.2.2.2.2.1])
