/-! the gaps between the seats taken -/
def gpC (T : Nat) : Nat → Int32 × Int32 × Int32
  | 0 => (nI 0, nI 0, nI 0)
  | s + 1 => if T.testBit s = true then ((gpC T s).2.1, (gpC T s).2.1, nI 1) else if (gpC T s).2.2 = 0 then gpC T s else ((gpC T s).1, (gpC T s).2.1 ||| (nI 1 <<< (nI s &&& 31)), (gpC T s).2.2)
theorem gpC_t {T s : Nat} (h : T.testBit s = true) : gpC T (s + 1) = ((gpC T s).2.1, (gpC T s).2.1, nI 1) := by rw [gpC, if_pos h]
theorem gpC_0 {T s : Nat} (h : T.testBit s = false) (h2 : (gpC T s).2.2 = 0) : gpC T (s + 1) = gpC T s := by rw [gpC, if_neg (by rw [h]; decide), if_pos h2]
theorem gpC_1 {T s : Nat} (h : T.testBit s = false) (h2 : ¬ (gpC T s).2.2 = 0) : gpC T (s + 1) = ((gpC T s).1, (gpC T s).2.1 ||| (nI 1 <<< (nI s &&& 31)), (gpC T s).2.2) := by rw [gpC, if_neg (by rw [h]; decide), if_neg h2]
set_option maxRecDepth 100000 in
set_option maxHeartbeats 4000000 in
theorem gpC_ok : ∀ a, a < 64 → ∀ b, b < 64 → (gpC (64 * a + b) 12).1 = gapF (nI (64 * a + b)) 12 := by decide +kernel
def tkN (R : Nat → Nat) : Nat → Nat
  | 0 => 0
  | m + 1 => tkN R m ||| 2 ^ R (2 + 6 * m + 1)
theorem shl_12 : ∀ v, v < 12 → nI 1 <<< (nI v &&& 31) = nI (2 ^ v) ∧ 2 ^ v < 4096 := by decide +kernel
theorem tk_ok {R : Nat → Nat} : ∀ {n : Nat}, (∀ m, m < n → R (2 + 6 * m + 1) < 12) → orF (fun m => nI 1 <<< (nI (R (2 + 6 * m + 1)) &&& 31)) n = nI (tkN R n) ∧ tkN R n < 4096 ∧ ∀ s, (tkN R n).testBit s = decide (who R s n ≠ none)
  | 0, _ => ⟨rfl, (show 0 < 4096 by decide), fun s => by simp [tkN, who]⟩
  | n + 1, h => by
    obtain ⟨h1, h2, h3⟩ := tk_ok (R := R) (n := n) (fun m hm => h m (by omega))
    have hs := shl_12 _ (h n (by omega))
    refine ⟨?_, ?_, fun s => ?_⟩
    · rw [orF, h1, hs.1, nI_or]; rfl
    · exact Nat.or_lt_two_pow (n := 12) h2 hs.2
    · rw [tkN, Nat.testBit_or, h3 s, Nat.testBit_two_pow, who]
      by_cases e : R (2 + 6 * n + 1) = s
      · rw [if_pos e]; simp [e]
      · rw [if_neg e]; simp [e]
theorem gap_end {R : Nat → Nat} (ok : okR R) : (gpC (tkN R (R 1)) 12).1 = gapF (orF (fun m => nI 1 <<< (nI (R (2 + 6 * m + 1)) &&& 31)) (R 1)) 12 := by
  obtain ⟨h1, h2, h3⟩ := tk_ok (R := R) (n := R 1) (fun m hm => (ok.2.1 m hm).2.1)
  rw [h1]
  have := gpC_ok (tkN R (R 1) / 64) (by omega) (tkN R (R 1) % 64) (by omega)
  rwa [show 64 * (tkN R (R 1) / 64) + tkN R (R 1) % 64 = tkN R (R 1) by omega] at this
