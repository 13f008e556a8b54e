/-! what the law keeps between its calls -/
def LwA (I F : TI) (R : Nat → Nat) : Prop := (okR R ∧ R 0 ≤ 99999) ∧ I 44 = nr R ∧ Ch I F 1 R
def LwK (I F : TI) (Rk : Nat → Nat) : Prop := F 0 3 = F 43 20 ∧ (okR Rk ∧ Rk 0 ≤ 99999) ∧ (¬ F 0 3 = 0 → Ch I F 21 Rk ∧ ∀ k, k < 62 → I 55 k = nI (Rk k))
def LwT (I F : TI) (B : Nat → Nat) (t : Nat) : Prop := TpM I F B t ∧ TpC I F B t
def LwS (I F : TI) (J : TJ) (Z : Nat → Nat) : Prop := (∀ i, i < 4 → I 52 i = nI (Z i) ∧ Z i ≤ 40) ∧ ShH I F ∧ ∀ a, a < 4 → ∀ i, i < 40 → J (35 + 2 * a) i = J 53 (40 * a + i)
def LwI (I : TI) (J : TJ) (F : TI) : Prop := ∃ (R Rk B : Nat → Nat) (t : Nat) (Z : Nat → Nat), LwA I F R ∧ I 42 = I 45 ∧ LwK I F Rk ∧ LwT I F B t ∧ LwS I F J Z
theorem ch_eq {I I2 F F2 : TI} {b : Nat} {R : Nat → Nat} (h : Ch I F b R) (hi : ∀ Q, b ≤ Q → Q ≤ b + 9 → I2 Q = I Q ∧ F2 Q = F Q) : Ch I2 F2 b R := by
  unfold Ch at h ⊢
  rw [(hi b (by omega) (by omega)).2, (hi (b + 1) (by omega) (by omega)).1, (hi (b + 2) (by omega) (by omega)).1, (hi (b + 3) (by omega) (by omega)).1, (hi (b + 4) (by omega) (by omega)).1, (hi (b + 5) (by omega) (by omega)).1, (hi (b + 6) (by omega) (by omega)).1, (hi (b + 7) (by omega) (by omega)).1]
  exact h
theorem la_k {I I2 F F2 : TI} {R : Nat → Nat} (h : LwA I F R) (hi : ∀ Q, 1 ≤ Q → Q ≤ 10 → I2 Q = I Q ∧ F2 Q = F Q) (h44 : I2 44 = I 44) : LwA I2 F2 R := ⟨h.1, h44.trans h.2.1, ch_eq h.2.2 hi⟩
theorem lk_k {I I2 F F2 : TI} {Rk : Nat → Nat} (h : LwK I F Rk) (hi : ∀ Q, 21 ≤ Q → Q ≤ 30 → I2 Q = I Q ∧ F2 Q = F Q) (h55 : I2 55 = I 55) (h0 : F2 0 3 = F 0 3) (h43 : F2 43 20 = F 43 20) : LwK I2 F2 Rk :=
  ⟨h0.trans (h.1.trans h43.symm), h.2.1, fun q => ⟨ch_eq (h.2.2 (by rw [← h0]; exact q)).1 hi, by rw [h55]; exact (h.2.2 (by rw [← h0]; exact q)).2⟩⟩
theorem lt_k {I I2 F F2 : TI} {B : Nat → Nat} {t : Nat} (h : LwT I F B t) (h50 : I2 50 = I 50) (h32 : I2 32 = I 32) (h43 : F2 43 7 = F 43 7) (h31 : F2 31 0 = F 31 0) : LwT I2 F2 B t :=
  ⟨⟨h43.trans h.1.1, h.1.2.1, by rw [h50]; exact h.1.2.2⟩, ⟨h31.trans h.2.1, h.2.2.1, by rw [h32]; exact h.2.2.2⟩⟩
theorem ls_k {I I2 F F2 : TI} {J J2 : TJ} {Z : Nat → Nat} (h : LwS I F J Z) (h51 : I2 51 = I 51) (h52 : I2 52 = I 52) (hF : ∀ Q, 34 ≤ Q → Q ≤ 41 → F2 Q = F Q) (hJ : J2 = J) : LwS I2 F2 J2 Z := by
  subst hJ
  refine ⟨by rw [h52]; exact h.1, fun a ha => ?_, h.2.2⟩
  rw [h51, h52, hF (34 + 2 * a) (by omega) (by omega)]
  exact h.2.1 a ha
section LAWI
variable {I I1 I2 F F1 F2 : TI} {J J1 J2 : TJ} {w w1 w2 : Int64} {R Rk B : Nat → Nat} {t : Nat} {Z : Nat → Nat}
theorem step_sp {sp : SP} {x y : Value} (hK : LwK I F Rk) (h42 : I 42 = I 45) (hT : LwT I F B t) (hS : LwS I F J Z) (hp1 : BvR I J F w sp x I1 J1 F1 w1) (hp2 : MdR I1 J1 F1 w1 sp y I2 J2 F2 w2) (ho : okR sp.1 ∧ sp.1 0 ≤ 99999) : x = y ∧ LwI I2 J2 F2 := by
  obtain ⟨x1, c1, f1, i1, g1, j1, -⟩ := hp1
  obtain ⟨y1, r2, f2, i2, j2, e2, -⟩ := hp2
  subst j2 e2 j1
  have hi : ∀ Q, ¬ (1 ≤ Q ∧ Q ≤ 20) → Q ≠ 42 → ¬ (44 ≤ Q ∧ Q ≤ 49) → I2 Q = I Q := fun Q a b c => (i2 Q (by omega) (by omega) (by omega) (by omega) (by omega) (by omega)).trans (i1 Q a b)
  refine ⟨x1.trans y1.symm, sp.1, Rk, B, t, Z, ⟨ho, r2, ch_eq c1 (fun Q a b => ⟨i2 Q (by omega) (by omega) (by omega) (by omega) (by omega) (by omega), rfl⟩)⟩, ?_, lk_k hK (fun Q a b => ⟨hi Q (by omega) (by omega) (by omega), g1 Q (by omega)⟩) (hi 55 (by decide) (by decide) (by decide)) (by rw [g1 0 (by decide)]) (by rw [g1 43 (by decide)]), lt_k hT (hi 50 (by decide) (by decide) (by decide)) (hi 32 (by decide) (by decide) (by decide)) (by rw [g1 43 (by decide)]) (by rw [g1 31 (by decide)]), ls_k hS (hi 51 (by decide) (by decide) (by decide)) (hi 52 (by decide) (by decide) (by decide)) (fun Q a b => g1 Q (by omega)) rfl⟩
  rw [i2 42 (by decide) (by decide) (by decide) (by decide) (by decide) (by decide), f1, f2, i1 45 (by decide) (by decide), h42]
theorem step_find {k : Nat} (hA : LwA I F R) (hK : LwK I F Rk) (h42 : I 42 = I 45) (hT : LwT I F B t) (hS : LwS I F J Z) (e1 : I1 = fnd I 42 k) (e2 : I2 = fnd I1 45 k) (e3 : F2 = F) (e4 : J2 = J) : LwI I2 J2 F2 := by
  subst e3 e4
  have hi : ∀ Q, Q ≠ 42 → Q ≠ 45 → I2 Q = I Q := fun Q a b => by rw [e2, fnd, up_n _ _ b, e1, fnd, up_n _ _ a]
  have h45 : I1 45 = I 45 := by rw [e1, fnd, up_n _ _ (by decide)]
  refine ⟨R, Rk, B, t, Z, la_k hA (fun Q a b => ⟨hi Q (by omega) (by omega), rfl⟩) (hi 44 (by decide) (by decide)), ?_, lk_k hK (fun Q a b => ⟨hi Q (by omega) (by omega), rfl⟩) (hi 55 (by decide) (by decide)) rfl rfl, lt_k hT (hi 50 (by decide) (by decide)) (hi 32 (by decide) (by decide)) rfl rfl, ls_k hS (hi 51 (by decide) (by decide)) (hi 52 (by decide) (by decide)) (fun _ _ _ => rfl) rfl⟩
  rw [e2]
  rw [show fnd I1 45 k 42 = I1 42 from up_n _ _ (by decide), show fnd I1 45 k 45 = upd (I1 45) k (I1 45 k + 1) from up_s _ _ _, h45, e1, show fnd I 42 k 42 = upd (I 42) k (I 42 k + 1) from up_s _ _ _, h42]
theorem by_b (z : Int32) : ∃ b : Nat, b < 256 ∧ z &&& nI 255 = nI b := by
  refine ⟨(z &&& nI 255).toBitVec.toNat, ?_, ?_⟩
  · rw [Int32.toBitVec_and, BitVec.toNat_and, show (nI 255).toBitVec.toNat = 255 by decide +kernel]
    exact Nat.lt_of_le_of_lt Nat.and_le_right (by decide)
  · apply Int32.toBitVec_inj.mp
    show _ = BitVec.ofNat 32 _
    rw [BitVec.ofNat_toNat, BitVec.setWidth_eq]
theorem fd_ok {x : Int32} : ∀ (n : Nat) {f f2 : Nat → Int32} {c : Nat}, (∀ k, k < c → f k = f2 k ∧ ∃ b : Nat, b < 256 ∧ f k = nI b) → ∀ k, k < c + n → fdF f c x n k = fdF f2 c x n k ∧ ∃ b : Nat, b < 256 ∧ fdF f c x n k = nI b
  | 0, f, f2, c, h, k, hk => h k (by omega)
  | n + 1, f, f2, c, h, k, hk => by
    refine fd_ok n (f := upd f c (byS x n)) (f2 := upd f2 c (byS x n)) (c := c + 1) (fun j hj => ?_) k (by omega)
    by_cases hjc : j = c
    · subst hjc
      simp only [upd, if_true]
      exact ⟨trivial, by_b _⟩
    · simp only [upd, hjc, if_false]
      exact h j (by omega)
theorem step_feed {x y : Int32} {v v2 : Value} (hA : LwA I F R) (hK : LwK I F Rk) (h42 : I 42 = I 45) (hT : LwT I F B t) (hS : LwS I F J Z) (hp1 : FdC I J F w t x y v I1 J1 F1 w1) (hp2 : FdM I1 J1 F1 w1 t x y v2 I2 J2 F2 w2) : v = v2 ∧ LwI I2 J2 F2 := by
  obtain ⟨a1, a2, a3, -⟩ := hp1
  obtain ⟨b1, b2, b3, -⟩ := hp2
  cases ho : fdO t y with
  | some k =>
    obtain ⟨c1, c2, c3⟩ := a2 k ho
    obtain ⟨d1, d2, d3⟩ := b2 k ho
    exact ⟨c1.trans d1.symm, step_find hA hK h42 hT hS c2 d2 (d3.trans c3) (b3.trans a3)⟩
  | none =>
    obtain ⟨c1, c2, c3⟩ := a1 ho
    obtain ⟨d1, d2, d3⟩ := b1 ho
    have hle : t + cl y ≤ 120 := by
      unfold fdO at ho
      split at ho
      · split at ho
        · assumption
        · cases ho
      · cases ho
    have hj : J2 = J := b3.trans a3
    have hi : ∀ Q, Q ≠ 32 → Q ≠ 50 → I2 Q = I Q := fun Q a b => by rw [d2, up_n _ _ b, c2, up_n _ _ a]
    have hf : ∀ Q, Q ≠ 31 → Q ≠ 43 → F2 Q = F Q := fun Q a b => by rw [d3, up_n _ _ b, c3, up_n _ _ a]
    have e50 : I1 50 = I 50 := by rw [c2, up_n _ _ (by decide)]
    have h32 : I2 32 = fdF (I 32) t x (cl y) := by rw [d2, up_n _ _ (by decide), c2, up_s]
    have h50 : I2 50 = fdF (I 50) t x (cl y) := by rw [d2, up_s, e50]
    have key := fd_ok (x := x) (cl y) (f := I 50) (f2 := I 32) (c := t) (fun k hk => ⟨(hT.1.2.2 k hk).1.trans (hT.2.2.2 k hk).1.symm, B k, (hT.1.2.2 k hk).2, (hT.1.2.2 k hk).1⟩)
    have g43 : F2 43 = va_up (F 43) 7 (nI (t + cl y)) := by rw [d3, up_s, c3, up_n _ _ (by decide)]
    have g31 : F2 31 = va_up (F 31) 0 (nI (t + cl y)) := by rw [d3, up_n _ _ (by decide), c3, up_s]
    have hb : ∀ k, k < t + cl y → fdF (I 50) t x (cl y) k = nI (cl (fdF (I 50) t x (cl y) k)) ∧ cl (fdF (I 50) t x (cl y) k) < 256 := fun k hk => by
      obtain ⟨b, hb1, hb2⟩ := (key k hk).2
      rw [hb2, cl_n (by omega)]
      exact ⟨rfl, hb1⟩
    refine ⟨c1.trans d1.symm, R, Rk, fun k => cl (fdF (I 50) t x (cl y) k), t + cl y, Z, la_k hA (fun Q a b => ⟨hi Q (by omega) (by omega), hf Q (by omega) (by omega)⟩) (hi 44 (by decide) (by decide)), by rw [hi 42 (by decide) (by decide), hi 45 (by decide) (by decide)]; exact h42, lk_k hK (fun Q a b => ⟨hi Q (by omega) (by omega), hf Q (by omega) (by omega)⟩) (hi 55 (by decide) (by decide)) (by rw [hf 0 (by decide) (by decide)]) (by rw [g43, up_n _ _ (by decide)]), ⟨⟨by rw [g43, up_s], hle, fun k hk => by rw [h50]; exact hb k hk⟩, ⟨by rw [g31, up_s], hle, fun k hk => by rw [h32, ← (key k hk).1]; exact hb k hk⟩⟩, ls_k hS (hi 51 (by decide) (by decide)) (hi 52 (by decide) (by decide)) (fun Q a b => hf Q (by omega) (by omega)) hj⟩
theorem step_wipe (hA : LwA I F R) (hK : LwK I F Rk) (h42 : I 42 = I 45) (hT : LwT I F B t) (hS : LwS I F J Z) : F 31 0 = (va_up F 31 (va_up (F 31) 0 (nI 0))) 43 7 ∧ LwI I J (va_up (va_up F 31 (va_up (F 31) 0 (nI 0))) 43 (va_up ((va_up F 31 (va_up (F 31) 0 (nI 0))) 43) 7 (nI 0))) := by
  have hf : ∀ Q, Q ≠ 31 → Q ≠ 43 → (va_up (va_up F 31 (va_up (F 31) 0 (nI 0))) 43 (va_up ((va_up F 31 (va_up (F 31) 0 (nI 0))) 43) 7 (nI 0))) Q = F Q := fun Q a b => by rw [up_n _ _ b, up_n _ _ a]
  have e43 : (va_up F 31 (va_up (F 31) 0 (nI 0))) 43 = F 43 := up_n _ _ (by decide)
  refine ⟨by rw [e43, hT.1.1, hT.2.1], R, Rk, B, 0, Z, la_k hA (fun Q a b => ⟨rfl, hf Q (by omega) (by omega)⟩) rfl, h42, lk_k hK (fun Q a b => ⟨rfl, hf Q (by omega) (by omega)⟩) rfl (by rw [hf 0 (by decide) (by decide)]) (by rw [up_s, e43, up_n _ _ (by decide)]), ⟨⟨by rw [up_s, up_s], by omega, fun k hk => absurd hk (by omega)⟩, ⟨by rw [up_n _ _ (by decide), up_s, up_s], by omega, fun k hk => absurd hk (by omega)⟩⟩, ls_k hS rfl rfl (fun Q a b => hf Q (by omega) (by omega)) rfl⟩
theorem ok_chapel (ok : okR R) (hN : R 0 ≤ 99999) : okR (sp_chapel R B t).1 ∧ (sp_chapel R B t).1 0 ≤ 99999 := by
  unfold sp_chapel
  split
  · rename_i h
    have := chp_G (B := B) (t := t) (t + 1) (p := 0) (n := 0) (by omega) ok h
    exact ⟨this.1, by rw [this.2]; exact hN⟩
  · exact ⟨ok, hN⟩
theorem step_chapel {x y : Value} (hA : LwA I F R) (hK : LwK I F Rk) (h42 : I 42 = I 45) (hT : LwT I F B t) (hS : LwS I F J Z) (hp1 : ChC I J F w (sp_chapel R B t) x I1 J1 F1 w1) (hp2 : ChM I1 J1 F1 (sp_chapel R B t) y I2 J2 F2 w2) : x = y ∧ LwI I2 J2 F2 := by
  obtain ⟨x1, c1, i1, g1, t1, j1, -⟩ := hp1
  obtain ⟨y1, r2, i2, j2, g2, t2, k2⟩ := hp2
  subst j1 j2
  have hi : ∀ Q, ¬ (1 ≤ Q ∧ Q ≤ 20) → Q ≠ 44 → Q ≠ 56 → I2 Q = I Q := fun Q a b c => (i2 Q b c).trans (i1 Q a)
  have hf : ∀ Q, ¬ (1 ≤ Q ∧ Q ≤ 20) → Q ≠ 31 → Q ≠ 43 → F2 Q = F Q := fun Q a b c => (g2 Q c).trans (g1 Q a b)
  refine ⟨x1.trans y1.symm, (sp_chapel R B t).1, Rk, B, 0, Z, ⟨ok_chapel hA.1.1 hA.1.2, r2, ch_eq c1 (fun Q a b => ⟨i2 Q (by omega) (by omega), g2 Q (by omega)⟩)⟩, by rw [hi 42 (by decide) (by decide) (by decide), hi 45 (by decide) (by decide) (by decide)]; exact h42, lk_k hK (fun Q a b => ⟨hi Q (by omega) (by omega) (by omega), hf Q (by omega) (by omega) (by omega)⟩) (hi 55 (by decide) (by decide) (by decide)) (by rw [hf 0 (by decide) (by decide) (by decide)]) (by rw [k2, g1 43 (by decide) (by decide)]), ⟨⟨t2, by omega, fun k hk => absurd hk (by omega)⟩, ⟨by rw [g2 31 (by decide)]; exact t1, by omega, fun k hk => absurd hk (by omega)⟩⟩, ls_k hS (hi 51 (by decide) (by decide) (by decide)) (hi 52 (by decide) (by decide) (by decide)) (fun Q a b => hf Q (by omega) (by omega) (by omega)) rfl⟩
theorem step_image {x : Value} (hA : LwA I F R) (h42 : I 42 = I 45) (hT : LwT I F B t) (hS : LwS I F J Z) (hp1 : ImC I J F w R x I1 J1 F1 w1) : x = .int (nI 1) ∧ LwI (va_up I1 55 (fun k => if k < 62 then I1 44 k else I1 55 k)) J1 (va_up F1 43 (va_up (F1 43) 20 (nI 1))) := by
  obtain ⟨x1, c1, k1, i1, g1, j1, -⟩ := hp1
  subst j1
  have hi : ∀ Q, ¬ (21 ≤ Q ∧ Q ≤ 30) → Q ≠ 55 → (va_up I1 55 (fun k => if k < 62 then I1 44 k else I1 55 k)) Q = I Q := fun Q a b => by rw [up_n _ _ b]; exact i1 Q a
  have hf : ∀ Q, ¬ (21 ≤ Q ∧ Q ≤ 30) → Q ≠ 0 → Q ≠ 43 → (va_up F1 43 (va_up (F1 43) 20 (nI 1))) Q = F Q := fun Q a b c => by rw [up_n _ _ c]; exact g1 Q a b
  refine ⟨x1, R, R, B, t, Z, la_k hA (fun Q a b => ⟨hi Q (by omega) (by omega), hf Q (by omega) (by omega) (by omega)⟩) (hi 44 (by decide) (by decide)), by rw [hi 42 (by decide) (by decide), hi 45 (by decide) (by decide)]; exact h42, ⟨by rw [up_n _ _ (by decide), up_s, up_s]; exact k1, hA.1, fun _ => ⟨ch_eq c1 (fun Q a b => ⟨up_n _ _ (by omega), up_n _ _ (by omega)⟩), fun k hk => by rw [up_s, if_pos hk, i1 44 (by decide), hA.2.1]; rfl⟩⟩, lt_k hT (hi 50 (by decide) (by decide)) (hi 32 (by decide) (by decide)) (by rw [up_s, up_n _ _ (by decide), g1 43 (by decide) (by decide)]) (by rw [hf 31 (by decide) (by decide) (by decide)]), ls_k hS (hi 51 (by decide) (by decide)) (hi 52 (by decide) (by decide)) (fun Q a b => hf Q (by omega) (by omega) (by omega)) rfl⟩
theorem step_tear (hA : LwA I F R) (hK : LwK I F Rk) (h42 : I 42 = I 45) (hT : LwT I F B t) (hS : LwS I F J Z) : (if F 0 3 = 0 then nI 0 else nI 1) = (if (va_up F 0 (va_up (F 0) 3 (nI 0))) 43 20 = 0 then nI 0 else nI 1) ∧ LwI I J (va_up (va_up F 0 (va_up (F 0) 3 (nI 0))) 43 (va_up ((va_up F 0 (va_up (F 0) 3 (nI 0))) 43) 20 (nI 0))) := by
  have e43 : (va_up F 0 (va_up (F 0) 3 (nI 0))) 43 = F 43 := up_n _ _ (by decide)
  have hf : ∀ Q, Q ≠ 0 → Q ≠ 43 → (va_up (va_up F 0 (va_up (F 0) 3 (nI 0))) 43 (va_up ((va_up F 0 (va_up (F 0) 3 (nI 0))) 43) 20 (nI 0))) Q = F Q := fun Q a b => by rw [up_n _ _ b, up_n _ _ a]
  refine ⟨by rw [e43, hK.1], R, Rk, B, t, Z, la_k hA (fun Q a b => ⟨rfl, hf Q (by omega) (by omega)⟩) rfl, h42, ⟨by rw [up_s, up_s, up_n _ _ (by decide), up_s, up_s], hK.2.1, fun q => absurd (by rw [up_n _ _ (by decide), up_s, up_s]; rfl) q⟩, lt_k hT rfl rfl (by rw [up_s, e43, up_n _ _ (by decide)]) (by rw [hf 31 (by decide) (by decide)]), ls_k hS rfl rfl (fun Q a b => hf Q (by omega) (by omega)) rfl⟩
end LAWI
