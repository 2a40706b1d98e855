/-! contracts of the small ones -/
abbrev zin (n a b : Int32) : Prop := ¬ n < a ∧ ¬ b < n
def zb (p : Prop) [Decidable p] : Int32 := if p then 1 else 0
theorem zb_t {p : Prop} [Decidable p] (h : p) : zb p = 1 := if_pos h
theorem zb_f {p : Prop} [Decidable p] (h : ¬ p) : zb p = 0 := if_neg h
theorem zb_01 (p : Prop) [Decidable p] : zb p = 0 ∨ zb p = 1 := by
  by_cases h : p
  · exact Or.inr (zb_t h)
  · exact Or.inl (zb_f h)
theorem zb_0 {p : Prop} [Decidable p] : zb p = 0 ↔ ¬ p := by
  by_cases h : p
  · rw [zb_t h]; exact ⟨fun q => absurd q (by decide), fun q => absurd h q⟩
  · rw [zb_f h]; exact ⟨fun _ => h, fun _ => rfl⟩
theorem zsw {p F G : Prop} [Decidable p] (hf : ¬ p → F) (ht : p → G) : (zb p = 0 → F) ∧ (¬ zb p = 0 → G) := ⟨fun q => hf (zb_0.mp q), fun q => ht (Decidable.of_not_not fun n => q (zb_0.mpr n))⟩
theorem zcmp_lt (x y : Int64) : lg_cmp x y < 0 ↔ x < y := by
  unfold lg_cmp
  by_cases h1 : x > y
  · rw [if_pos h1]
    exact ⟨fun q => absurd q (by decide), fun q => absurd q (Int64.lt_asymm h1)⟩
  · rw [if_neg h1]
    by_cases h2 : x = y
    · rw [if_pos h2, h2]
      exact ⟨fun q => absurd q (by decide), fun q => absurd q (Int64.lt_irrefl)⟩
    · rw [if_neg h2]
      refine ⟨fun _ => ?_, fun _ => by decide⟩
      rw [Int64.lt_iff_toInt_lt]
      have h3 : ¬ y.toInt < x.toInt := fun q => h1 (Int64.lt_iff_toInt_lt.mpr q)
      have h4 : x.toInt ≠ y.toInt := fun q => h2 (Int64.toInt_inj.mp q)
      omega
theorem zcmp_gt (x y : Int64) : (0 : Int32) < lg_cmp x y ↔ y < x := by
  unfold lg_cmp
  by_cases h1 : x > y
  · rw [if_pos h1]
    exact ⟨fun _ => h1, fun _ => by decide⟩
  · rw [if_neg h1]
    by_cases h2 : x = y
    · rw [if_pos h2]
      exact ⟨fun q => absurd q (by decide), fun q => absurd q h1⟩
    · rw [if_neg h2]
      exact ⟨fun q => absurd q (by decide), fun q => absurd q h1⟩
theorem zlt64 (x y : Int32) : x.toInt64 < y.toInt64 ↔ x < y := by
  rw [Int64.lt_iff_toInt_lt, Int32.lt_iff_toInt_lt, Int32.toInt_toInt64, Int32.toInt_toInt64]
section ZBAS
variable {X : Option (List Int32)} {d : Nat} {h : zH} {A : Int32 → zH → Prop}
theorem c119 {a1 a2 a3 : Int32} (k : A (zb (zin a1 a2 a3)) h) : zP X d 119 0 (z_ent [.int a1, .int a2, .int a3] 3) [] z_S0 h (zI A) := by
  refine b119 ⟨fun h1 => ?_, fun h1 => ⟨fun h2 => ?_, fun h2 => ?_⟩⟩
  · rw [zb_f (fun q => q.1 h1)] at k; exact k
  · rw [zb_f (fun q => q.2 h2)] at k; exact k
  · rw [zb_t ⟨h1, h2⟩] at k; exact k
theorem c120 {a1 : Int32} (k : A (zb (zin a1 0 5)) h) : zP X (d + 1) 120 0 (z_ent [.int a1] 1) [] z_S0 h (zI A) := b120 (c119 ⟨zb_01 _, k⟩)
theorem c121 {a1 : Int32} (k : A (zb (zin a1 0 4)) h) : zP X (d + 1) 121 0 (z_ent [.int a1] 1) [] z_S0 h (zI A) := b121 (c119 ⟨zb_01 _, k⟩)
theorem c122 {a1 : Int32} (k : A (zb (zin a1 0 3)) h) : zP X (d + 1) 122 0 (z_ent [.int a1] 1) [] z_S0 h (zI A) := b122 (c119 ⟨zb_01 _, k⟩)
theorem c123 {a1 : Int32} (k : A (zb (zin a1 0 9)) h) : zP X (d + 1) 123 0 (z_ent [.int a1] 1) [] z_S0 h (zI A) := b123 (c119 ⟨zb_01 _, k⟩)
theorem c124 {a1 : Int32} (k : A (zb (zin a1 0 3)) h) : zP X (d + 1) 124 0 (z_ent [.int a1] 1) [] z_S0 h (zI A) := b124 (c119 ⟨zb_01 _, k⟩)
theorem c125 {a1 : Int32} (k : A (zb (zin a1 0 399)) h) : zP X (d + 1) 125 0 (z_ent [.int a1] 1) [] z_S0 h (zI A) := b125 (c119 ⟨zb_01 _, k⟩)
abbrev zdays (a b : Int32) : Prop := zin a 0 399 ∧ zin b 0 399 ∧ ¬ b < a
theorem c126 {a1 a2 : Int32} (k : A (zb (zdays a1 a2)) h) : zP X (d + 2) 126 0 (z_ent [.int a1, .int a2] 2) [] z_S0 h (zI A) := by
  refine b126 (c125 (zsw (fun h1 => ?_) (fun h1 => c125 (zsw (fun h2 => ?_) (fun h2 => ⟨fun h3 => ?_, fun h3 => ?_⟩)))))
  · rw [zb_f (fun q => h1 q.1)] at k; exact k
  · rw [zb_f (fun q => h2 q.2.1)] at k; exact k
  · rw [zb_f (fun q => q.2.2 h3)] at k; exact k
  · rw [zb_t ⟨h1, h2, h3⟩] at k; exact k
theorem c127 {a1 a2 : Int32} (k : A (a1 * a2 / 100) h) : zP X d 127 0 (z_ent [.int a1, .int a2] 2) [] z_S0 h (zI A) := b127 k
/-- isIn of the reference, over longs that are ints -/
theorem c128 {n : Int32} {x y : Int64} (a b : Int32) (hx : x = a.toInt64) (hy : y = b.toInt64) (k : A (zb (zin n a b)) h) : zP X d 128 0 (z_ent [.long (Int32.toInt64 n), .long x, .long y] 6) [] z_S0 h (zI A) := by
  subst hx; subst hy
  refine b128 ⟨fun h1 => ?_, fun h1 => ⟨fun h2 => ?_, fun h2 => ?_⟩⟩
  · rw [zcmp_lt, zlt64] at h1
    rw [zb_f (fun q => q.1 h1)] at k; exact k
  · rw [zcmp_gt, zlt64] at h2
    rw [zb_f (fun q => q.2 h2)] at k; exact k
  · rw [zcmp_lt, zlt64] at h1
    rw [zcmp_gt, zlt64] at h2
    rw [zb_t ⟨h1, h2⟩] at k; exact k
theorem c130 {a1 : Int32} (k : A (zb (zin a1 0 399)) h) : zP X (d + 1) 130 0 (z_ent [.int a1] 1) [] z_S0 h (zI A) := b130 (c128 0 399 (by decide) (by decide) ⟨zb_01 _, k⟩)
theorem c131 {a1 : Int32} (k : A (zb (zin a1 0 5)) h) : zP X (d + 1) 131 0 (z_ent [.int a1] 1) [] z_S0 h (zI A) := b131 (c128 0 5 (by decide) (by decide) ⟨zb_01 _, k⟩)
theorem c132 {a1 : Int32} (k : A (zb (zin a1 0 4)) h) : zP X (d + 1) 132 0 (z_ent [.int a1] 1) [] z_S0 h (zI A) := b132 (c128 0 4 (by decide) (by decide) ⟨zb_01 _, k⟩)
theorem c133 {a1 : Int32} (k : A (zb (zin a1 0 3)) h) : zP X (d + 1) 133 0 (z_ent [.int a1] 1) [] z_S0 h (zI A) := b133 (c128 0 3 (by decide) (by decide) ⟨zb_01 _, k⟩)
theorem c205 {a1 : Int32} (k : A (zb (zin a1 0 3)) h) : zP X (d + 1) 205 0 (z_ent [.int a1] 1) [] z_S0 h (zI A) := b205 (c128 0 3 (by decide) (by decide) ⟨zb_01 _, k⟩)
theorem c174 {a1 a2 : Int32} (k : A (zb (zdays a1 a2)) h) : zP X (d + 2) 174 0 (z_ent [.int a1, .int a2] 2) [] z_S0 h (zI A) := by
  refine b174 (c130 (zsw (fun h1 => ?_) (fun h1 => c130 (zsw (fun h2 => ?_) (fun h2 => ⟨fun h3 => ?_, fun h3 => ?_⟩)))))
  · rw [zb_f (fun q => h1 q.1)] at k; exact k
  · rw [zb_f (fun q => h2 q.2.1)] at k; exact k
  · rw [zb_f (fun q => q.2.2 h3)] at k; exact k
  · rw [zb_t ⟨h1, h2, h3⟩] at k; exact k
theorem c214 {a1 a2 : Int32} (k : A (if a1 < a2 then a2 else a1) h) : zP X d 214 0 (z_ent [.int a1, .int a2] 2) [] z_S0 h (zI A) := b214 ⟨fun q => by rw [if_pos q] at k; exact k, fun q => by rw [if_neg q] at k; exact k⟩
theorem c215 {a1 a2 : Int32} (k : A (if a2 < a1 then a2 else a1) h) : zP X d 215 0 (z_ent [.int a1, .int a2] 2) [] z_S0 h (zI A) := b215 ⟨fun q => by rw [if_pos q] at k; exact k, fun q => by rw [if_neg q] at k; exact k⟩
/-- the first pair: pass -/
theorem p_pass {n : Int32} (hR : h 0 16 = h 82 0) : zP X (d + 1) 76 0 (z_ent [.ref 0, .int n] 2) [] z_S0 h (zI fun r h1 => zP X (d + 1) 129 0 (z_ent [.ref 82, .int n] 2) [] z_S0 h1 (zI fun r2 h2 => r = r2 ∧ ∃ v, h2 = z_up (z_up h 0 16 v) 82 0 v)) := by
  have hid : ∀ (k j : Nat), z_up h k j (h k j) = h := fun k j => by
    funext a b
    unfold z_up upd
    by_cases h1 : a = k
    · subst h1
      rw [if_pos rfl]
      by_cases h2 : b = j
      · rw [if_pos h2, h2]
      · rw [if_neg h2]
    · rw [if_neg h1]
  refine b76 (c119 (zsw (fun h1 => ?_) (fun h1 => ⟨fun h2 => ?_, fun h2 => ?_⟩)))
  · refine b129 (c128 1 60 (by decide) (by decide) (zsw (fun _ => ?_) (fun h3 => absurd h3 h1)))
    exact ⟨rfl, h 0 16, by rw [hid, hR, hid]⟩
  · refine b129 (c128 1 60 (by decide) (by decide) (zsw (fun h3 => absurd h1 h3) (fun _ => ⟨fun _ => ?_, fun h3 => ?_⟩)))
    · exact ⟨rfl, h 0 16, by rw [hid, hR, hid]⟩
    · rw [← hR] at h3
      exact absurd h2 h3
  · refine b129 (c128 1 60 (by decide) (by decide) (zsw (fun h3 => absurd h1 h3) (fun _ => ⟨fun h3 => ?_, fun h3 => ?_⟩)))
    · have h4 : (z_up h 0 16 (h 0 16 + n)) 82 0 = h 82 0 := rfl
      rw [h4, ← hR] at h3
      exact absurd h3 h2
    · have h4 : (z_up h 0 16 (h 0 16 + n)) 82 0 = h 82 0 := rfl
      rw [h4, ← hR]
      exact ⟨rfl, h 0 16 + n, rfl⟩
end ZBAS
