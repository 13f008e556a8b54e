theorem by_sh (x : Int32) : ∀ k, k < 4 → (x.toUInt32 >>> ((nI 8 * nI k).toUInt32 &&& Int32.toUInt32 31)).toInt32 &&& nI 255 = byS x k := by
  have key : ∀ s : Nat, s < 25 → ∀ (u : UInt32) (q : Int32), u.toBitVec = BitVec.ofNat 32 s → q.toBitVec = BitVec.ofNat 32 s → (x.toUInt32 >>> u).toInt32 &&& nI 255 = (x >>> q) &&& nI 255 := by
    intro s hs u q hu hq
    apply Int32.toBitVec_inj.mp
    apply BitVec.eq_of_getLsbD_eq
    intro i hi
    have h255 : (nI 255).toBitVec = 255#32 := by decide +kernel
    have hm : (BitVec.ofNat 32 s).toNat = s := by simp; omega
    simp only [Int32.toBitVec_and, h255, BitVec.getLsbD_and]
    by_cases h8 : i < 8
    · congr 1
      have e1 : (x.toUInt32 >>> u).toInt32.toBitVec = x.toBitVec >>> (u.toBitVec % 32) := rfl
      rw [e1, Int32.toBitVec_shiftRight, hu, hq]
      have e2 : (BitVec.ofNat 32 s % 32).toNat = s := by simp; omega
      have e3 : (BitVec.ofNat 32 s).smod 32 = BitVec.ofNat 32 s := by
        have : ∀ t, t < 25 → (BitVec.ofNat 32 t).smod 32 = BitVec.ofNat 32 t := by decide +kernel
        exact this s hs
      rw [e3, BitVec.ushiftRight_eq', BitVec.getLsbD_ushiftRight, BitVec.sshiftRight_eq', BitVec.getLsbD_sshiftRight, e2, hm]
      simp [show s + i < 32 by omega, hi]
    · have : (255#32).getLsbD i = false := by
        have : ∀ j, j < 32 → 8 ≤ j → (255#32).getLsbD j = false := by decide +kernel
        exact this i hi (by omega)
      rw [this, Bool.and_false, Bool.and_false]
  intro k hk
  unfold byS
  refine key (8 * k) (by omega) _ _ ?_ ?_
  · have : ∀ k, k < 4 → ((nI 8 * nI k).toUInt32 &&& Int32.toUInt32 31).toBitVec = BitVec.ofNat 32 (8 * k) := by decide +kernel
    exact this k hk
  · have : ∀ k, k < 4 → (nI (8 * k) &&& 31).toBitVec = BitVec.ofNat 32 (8 * k) := by decide +kernel
    exact this k hk
