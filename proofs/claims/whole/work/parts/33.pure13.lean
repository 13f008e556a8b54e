theorem bs_u11 {I F I3 F3 : TI} {R : Nat → Nat} {P : Nat} {x : Nat → Int32} (h : BS I F R I3 F3) (hP : 11 ≤ P ∧ P ≤ 20) : BS I F R (va_up I3 P x) F3 := ⟨ch_far h.1 (by omega), fun Q hQ => by rw [up_n _ _ (by omega)]; exact h.2.1 Q hQ, h.2.2⟩
theorem bt_p {I F I3 F3 : TI} {R Rt : Nat → Nat} {a j v P : Nat} (h : BT I F R Rt I3 F3) (ha : a < Rt 1) (hj : j < 6) (hj1 : j ≠ 1) (hP : P = 11 + 1 + j) : BT I F R (va_up Rt (2 + 6 * a + j) v) (va_up I3 P (upd (I3 P) a (nI v))) F3 := ⟨bs_u11 h.1 (by omega), ch_put h.2 ha hj hj1 hP⟩
theorem bt_s {I F I3 F3 : TI} {R Rt : Nat → Nat} {a x : Nat} (ok : okR Rt) (h : BT I F R Rt I3 F3) (ha : a < Rt 1) (hx : x < 12) (hw : who Rt x (Rt 1) = none ∨ who Rt x (Rt 1) = some a) : BT I F R (va_up Rt (2 + 6 * a + 1) x) (va_up (va_up I3 (11 + 7) (upd (upd (I3 (11 + 7)) (Rt (2 + 6 * a + 1)) (-1)) x (nI a))) (11 + 2) (upd (I3 (11 + 2)) a (nI x))) F3 := ⟨bs_u11 (bs_u11 h.1 (by omega)) (by omega), ch_seat ok h.2 ha hx hw⟩
theorem bst_ind {b : Nat} {c : Nat → Option Nat} : ∀ k, (bstF b c k).2 = (bstF 0 c k).2 ∧ (0 < (bstF 0 c k).2 → (bstF b c k).1 = (bstF 0 c k).1)
  | 0 => ⟨rfl, fun h => absurd h (Nat.lt_irrefl 0)⟩
  | k + 1 => by
    obtain ⟨h1, h2⟩ := bst_ind (b := b) (c := c) k
    cases h : c k with
    | none => rw [bst_n h, bst_n h]; exact ⟨h1, h2⟩
    | some v =>
      by_cases hv : v + 1 ≤ (bstF 0 c k).2
      · rw [bst_le h hv, bst_le h (by rw [h1]; exact hv)]; exact ⟨h1, h2⟩
      · rw [bst_gt h hv, bst_gt h (by rw [h1]; exact hv)]; exact ⟨rfl, fun _ => rfl⟩
theorem bst_hit {c : Nat → Option Nat} {i v : Nat} (h : c i = some v) : ∀ k, i < k → 0 < (bstF 0 c k).2
  | 0, hk => by omega
  | k + 1, hk => by
    by_cases e : i = k
    · subst e
      by_cases hv : v + 1 ≤ (bstF 0 c i).2
      · rw [bst_le h hv]; omega
      · rw [bst_gt h hv]; exact Nat.succ_pos _
    · have ih := bst_hit h k (by omega)
      cases hc : c k with
      | none => rw [bst_n hc]; exact ih
      | some v2 =>
        by_cases hv : v2 + 1 ≤ (bstF 0 c k).2
        · rw [bst_le hc hv]; exact ih
        · rw [bst_gt hc hv]; exact Nat.succ_pos _
theorem best_own {R : Nat → Nat} {a j : Nat} (ok : okR R) (ha : a < R 1) (b : Nat) : (bstF b (bvS R a j) 12).1 = (bstF 0 (bvS R a j) 12).1 := by
  refine (bst_ind 12).2 (bst_hit (i := R (2 + 6 * a + 1)) (v := pcn (pasN (va_up R (2 + 6 * a + 1) (R (2 + 6 * a + 1))) j (2 + 6 * a + 4))) ?_ 12 (ok.2.1 a ha).2.1)
  rw [bvS, if_pos (Or.inr (who_of ok.2.2.1 ha rfl))]
theorem pas_j (R : Nat → Nat) {m j : Nat} (hj : j < 4) : ∀ k, pasN R k (2 + 6 * m + j) = R (2 + 6 * m + j)
  | 0 => rfl
  | k + 1 => (nig_j _ hj).trans (pas_j R hj k)
