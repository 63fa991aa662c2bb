def kc_shp (cI cII cZ cJ : ClassId) : Nat → kc_Sh := fun k => match k with
  | 0 => .inr (.inr (.inl (0, [some 1, some 2, some 3, some 4, some 5, some 6, none])))
  | 1 => .inr (.inr (.inl (3, [none, none, none])))
  | 2 => .inr (.inr (.inl (2, [some 7, none])))
  | 3 => .inr (.inr (.inl (4, [some 1, some 8, some 9, some 10, some 11, some 12, some 13, none, none])))
  | 4 => .inl (cI, 8)
  | 5 => .inl (cI, 4)
  | 6 => .inl (cI, 4)
  | 7 => .inl (cI, 2250)
  | 8 => .inl (cI, 8)
  | 9 => .inr (.inl (cII, 8, 14))
  | 10 => .inr (.inl (cII, 8, 22))
  | 11 => .inr (.inl (cII, 8, 30))
  | 12 => .inl (cI, 8)
  | 13 => .inl (cI, 8)
  | 14 => .inl (cI, 4)
  | 15 => .inl (cI, 4)
  | 16 => .inl (cI, 4)
  | 17 => .inl (cI, 4)
  | 18 => .inl (cI, 4)
  | 19 => .inl (cI, 4)
  | 20 => .inl (cI, 4)
  | 21 => .inl (cI, 4)
  | 22 => .inl (cI, 4)
  | 23 => .inl (cI, 4)
  | 24 => .inl (cI, 4)
  | 25 => .inl (cI, 4)
  | 26 => .inl (cI, 4)
  | 27 => .inl (cI, 4)
  | 28 => .inl (cI, 4)
  | 29 => .inl (cI, 4)
  | 30 => .inl (cI, 8)
  | 31 => .inl (cI, 8)
  | 32 => .inl (cI, 8)
  | 33 => .inl (cI, 8)
  | 34 => .inl (cI, 8)
  | 35 => .inl (cI, 8)
  | 36 => .inl (cI, 8)
  | 37 => .inl (cI, 8)
  | 38 => .inr (.inr (.inl (1, [none, none, none, none, none, none, some 39, some 40, some 41, some 42, some 43, some 44, some 45, some 46, some 47, some 48, none, some 49])))
  | 39 => .inl (cI, 8)
  | 40 => .inl (cZ, 8)
  | 41 => .inl (cI, 4)
  | 42 => .inl (cI, 8)
  | 43 => .inl (cZ, 8)
  | 44 => .inl (cI, 32)
  | 45 => .inl (cI, 32)
  | 46 => .inl (cI, 64)
  | 47 => .inl (cZ, 64)
  | 48 => .inl (cZ, 64)
  | 49 => .inl (cI, 2250)
  | _ => .inr (.inr (.inr (cJ, 1)))
def kc_G (V : kc_V) : Prop := ∃ cI cII cZ cJ : ClassId, kc_N V = 51 ∧ kc_sh V = kc_shp cI cII cZ cJ ∧ kc_ty V = [(cI, .int), (cII, .array .int), (cZ, .boolean), (cJ, .long)] ∧ kc_ok V
theorem kc_G.ok {V : kc_V} (hV : kc_G V) : kc_ok V := by
  obtain ⟨cI, cII, cZ, cJ, h1, h2, h3, h4⟩ := hV
  exact h4
theorem ko_0 {V : kc_V} (hV : kc_G V) : kc_ob V 0 0 [some 1, some 2, some 3, some 4, some 5, some 6, none] := by
  obtain ⟨cI, cII, cZ, cJ, h1, h2, h3, h4⟩ := hV
  exact ⟨by rw [h1]; decide, by rw [h2]; rfl⟩
theorem ko_1 {V : kc_V} (hV : kc_G V) : kc_ob V 1 3 [none, none, none] := by
  obtain ⟨cI, cII, cZ, cJ, h1, h2, h3, h4⟩ := hV
  exact ⟨by rw [h1]; decide, by rw [h2]; rfl⟩
theorem ko_2 {V : kc_V} (hV : kc_G V) : kc_ob V 2 2 [some 7, none] := by
  obtain ⟨cI, cII, cZ, cJ, h1, h2, h3, h4⟩ := hV
  exact ⟨by rw [h1]; decide, by rw [h2]; rfl⟩
theorem ko_3 {V : kc_V} (hV : kc_G V) : kc_ob V 3 4 [some 1, some 8, some 9, some 10, some 11, some 12, some 13, none, none] := by
  obtain ⟨cI, cII, cZ, cJ, h1, h2, h3, h4⟩ := hV
  exact ⟨by rw [h1]; decide, by rw [h2]; rfl⟩
theorem ko_38 {V : kc_V} (hV : kc_G V) : kc_ob V 38 1 [none, none, none, none, none, none, some 39, some 40, some 41, some 42, some 43, some 44, some 45, some 46, some 47, some 48, none, some 49] := by
  obtain ⟨cI, cII, cZ, cJ, h1, h2, h3, h4⟩ := hV
  exact ⟨by rw [h1]; decide, by rw [h2]; rfl⟩
theorem ka_4 {V : kc_V} (hV : kc_G V) : kc_ai V 4 8 := by
  obtain ⟨cI, cII, cZ, cJ, h1, h2, h3, h4⟩ := hV
  exact ⟨cI, 0, by rw [h1]; decide, by rw [h2]; rfl, by rw [h3]; rfl, by decide⟩
theorem ka_5 {V : kc_V} (hV : kc_G V) : kc_ai V 5 4 := by
  obtain ⟨cI, cII, cZ, cJ, h1, h2, h3, h4⟩ := hV
  exact ⟨cI, 0, by rw [h1]; decide, by rw [h2]; rfl, by rw [h3]; rfl, by decide⟩
theorem ka_6 {V : kc_V} (hV : kc_G V) : kc_ai V 6 4 := by
  obtain ⟨cI, cII, cZ, cJ, h1, h2, h3, h4⟩ := hV
  exact ⟨cI, 0, by rw [h1]; decide, by rw [h2]; rfl, by rw [h3]; rfl, by decide⟩
theorem ka_7 {V : kc_V} (hV : kc_G V) : kc_ai V 7 2250 := by
  obtain ⟨cI, cII, cZ, cJ, h1, h2, h3, h4⟩ := hV
  exact ⟨cI, 0, by rw [h1]; decide, by rw [h2]; rfl, by rw [h3]; rfl, by decide⟩
theorem ka_8 {V : kc_V} (hV : kc_G V) : kc_ai V 8 8 := by
  obtain ⟨cI, cII, cZ, cJ, h1, h2, h3, h4⟩ := hV
  exact ⟨cI, 0, by rw [h1]; decide, by rw [h2]; rfl, by rw [h3]; rfl, by decide⟩
theorem ka_12 {V : kc_V} (hV : kc_G V) : kc_ai V 12 8 := by
  obtain ⟨cI, cII, cZ, cJ, h1, h2, h3, h4⟩ := hV
  exact ⟨cI, 0, by rw [h1]; decide, by rw [h2]; rfl, by rw [h3]; rfl, by decide⟩
theorem ka_13 {V : kc_V} (hV : kc_G V) : kc_ai V 13 8 := by
  obtain ⟨cI, cII, cZ, cJ, h1, h2, h3, h4⟩ := hV
  exact ⟨cI, 0, by rw [h1]; decide, by rw [h2]; rfl, by rw [h3]; rfl, by decide⟩
theorem ka_39 {V : kc_V} (hV : kc_G V) : kc_ai V 39 8 := by
  obtain ⟨cI, cII, cZ, cJ, h1, h2, h3, h4⟩ := hV
  exact ⟨cI, 0, by rw [h1]; decide, by rw [h2]; rfl, by rw [h3]; rfl, by decide⟩
theorem ka_41 {V : kc_V} (hV : kc_G V) : kc_ai V 41 4 := by
  obtain ⟨cI, cII, cZ, cJ, h1, h2, h3, h4⟩ := hV
  exact ⟨cI, 0, by rw [h1]; decide, by rw [h2]; rfl, by rw [h3]; rfl, by decide⟩
theorem ka_42 {V : kc_V} (hV : kc_G V) : kc_ai V 42 8 := by
  obtain ⟨cI, cII, cZ, cJ, h1, h2, h3, h4⟩ := hV
  exact ⟨cI, 0, by rw [h1]; decide, by rw [h2]; rfl, by rw [h3]; rfl, by decide⟩
theorem ka_44 {V : kc_V} (hV : kc_G V) : kc_ai V 44 32 := by
  obtain ⟨cI, cII, cZ, cJ, h1, h2, h3, h4⟩ := hV
  exact ⟨cI, 0, by rw [h1]; decide, by rw [h2]; rfl, by rw [h3]; rfl, by decide⟩
theorem ka_45 {V : kc_V} (hV : kc_G V) : kc_ai V 45 32 := by
  obtain ⟨cI, cII, cZ, cJ, h1, h2, h3, h4⟩ := hV
  exact ⟨cI, 0, by rw [h1]; decide, by rw [h2]; rfl, by rw [h3]; rfl, by decide⟩
theorem ka_46 {V : kc_V} (hV : kc_G V) : kc_ai V 46 64 := by
  obtain ⟨cI, cII, cZ, cJ, h1, h2, h3, h4⟩ := hV
  exact ⟨cI, 0, by rw [h1]; decide, by rw [h2]; rfl, by rw [h3]; rfl, by decide⟩
theorem ka_49 {V : kc_V} (hV : kc_G V) : kc_ai V 49 2250 := by
  obtain ⟨cI, cII, cZ, cJ, h1, h2, h3, h4⟩ := hV
  exact ⟨cI, 0, by rw [h1]; decide, by rw [h2]; rfl, by rw [h3]; rfl, by decide⟩
theorem ka_40 {V : kc_V} (hV : kc_G V) : kc_az V 40 8 := by
  obtain ⟨cI, cII, cZ, cJ, h1, h2, h3, h4⟩ := hV
  exact ⟨cZ, 2, by rw [h1]; decide, by rw [h2]; rfl, by rw [h3]; rfl, by decide⟩
theorem ka_43 {V : kc_V} (hV : kc_G V) : kc_az V 43 8 := by
  obtain ⟨cI, cII, cZ, cJ, h1, h2, h3, h4⟩ := hV
  exact ⟨cZ, 2, by rw [h1]; decide, by rw [h2]; rfl, by rw [h3]; rfl, by decide⟩
theorem ka_47 {V : kc_V} (hV : kc_G V) : kc_az V 47 64 := by
  obtain ⟨cI, cII, cZ, cJ, h1, h2, h3, h4⟩ := hV
  exact ⟨cZ, 2, by rw [h1]; decide, by rw [h2]; rfl, by rw [h3]; rfl, by decide⟩
theorem ka_48 {V : kc_V} (hV : kc_G V) : kc_az V 48 64 := by
  obtain ⟨cI, cII, cZ, cJ, h1, h2, h3, h4⟩ := hV
  exact ⟨cZ, 2, by rw [h1]; decide, by rw [h2]; rfl, by rw [h3]; rfl, by decide⟩
theorem ka_50 {V : kc_V} (hV : kc_G V) : kc_al V 50 1 := by
  obtain ⟨cI, cII, cZ, cJ, h1, h2, h3, h4⟩ := hV
  exact ⟨cJ, 3, by rw [h1]; decide, by rw [h2]; rfl, by rw [h3]; rfl, by decide⟩
theorem ka_9 {V : kc_V} (hV : kc_G V) : kc_ar V 9 8 14 := by
  obtain ⟨cI, cII, cZ, cJ, h1, h2, h3, h4⟩ := hV
  exact ⟨cII, 1, by rw [h1]; decide, by rw [h2]; rfl, by rw [h3]; rfl, by decide⟩
theorem ka_14 {V : kc_V} (hV : kc_G V) {d : Nat} (hd : d < 8) : kc_ai V (14 + d) 4 := by
  obtain ⟨cI, cII, cZ, cJ, h1, h2, h3, h4⟩ := hV
  refine ⟨cI, 0, by rw [h1]; omega, ?_, by rw [h3]; rfl, by decide⟩
  rw [h2]
  rcases (show d = 0 ∨ d = 1 ∨ d = 2 ∨ d = 3 ∨ d = 4 ∨ d = 5 ∨ d = 6 ∨ d = 7 by omega) with rfl | rfl | rfl | rfl | rfl | rfl | rfl | rfl <;> rfl
theorem ka_10 {V : kc_V} (hV : kc_G V) : kc_ar V 10 8 22 := by
  obtain ⟨cI, cII, cZ, cJ, h1, h2, h3, h4⟩ := hV
  exact ⟨cII, 1, by rw [h1]; decide, by rw [h2]; rfl, by rw [h3]; rfl, by decide⟩
theorem ka_22 {V : kc_V} (hV : kc_G V) {d : Nat} (hd : d < 8) : kc_ai V (22 + d) 4 := by
  obtain ⟨cI, cII, cZ, cJ, h1, h2, h3, h4⟩ := hV
  refine ⟨cI, 0, by rw [h1]; omega, ?_, by rw [h3]; rfl, by decide⟩
  rw [h2]
  rcases (show d = 0 ∨ d = 1 ∨ d = 2 ∨ d = 3 ∨ d = 4 ∨ d = 5 ∨ d = 6 ∨ d = 7 by omega) with rfl | rfl | rfl | rfl | rfl | rfl | rfl | rfl <;> rfl
theorem ka_11 {V : kc_V} (hV : kc_G V) : kc_ar V 11 8 30 := by
  obtain ⟨cI, cII, cZ, cJ, h1, h2, h3, h4⟩ := hV
  exact ⟨cII, 1, by rw [h1]; decide, by rw [h2]; rfl, by rw [h3]; rfl, by decide⟩
theorem ka_30 {V : kc_V} (hV : kc_G V) {d : Nat} (hd : d < 8) : kc_ai V (30 + d) 8 := by
  obtain ⟨cI, cII, cZ, cJ, h1, h2, h3, h4⟩ := hV
  refine ⟨cI, 0, by rw [h1]; omega, ?_, by rw [h3]; rfl, by decide⟩
  rw [h2]
  rcases (show d = 0 ∨ d = 1 ∨ d = 2 ∨ d = 3 ∨ d = 4 ∨ d = 5 ∨ d = 6 ∨ d = 7 by omega) with rfl | rfl | rfl | rfl | rfl | rfl | rfl | rfl <;> rfl
abbrev kc_rm (d : Nat) : Room := { frames := d, cells := 0, slots := 0, locals := 36 * d }
