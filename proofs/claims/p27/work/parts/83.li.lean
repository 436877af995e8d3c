theorem okB_0 : okB (fun _ => 0) := fun _ => (⟨by decide, by decide⟩ : -128 ≤ (0 : Int32).toInt ∧ (0 : Int32).toInt ≤ 127)
theorem okr_c0 : okr (fun _ => 0) := okr_0
theorem oki_c0 {lo hi : Int} (h1 : lo ≤ 0) (h2 : 0 ≤ hi) : oki lo hi (fun _ => 0) := fun _ => ⟨h1, h2⟩
set_option maxRecDepth 100000 in
theorem ix_H2 : IX2 H2 0 (fun _ => 0) (fun _ => 0) (fun _ _ => 0) 0 0 0 (fun _ _ => 0) (fun _ _ => 0) (fun _ _ => 0) (fun _ => 0) (fun _ => 0) (fun _ => 0) := by
  have e4 : tls 0 = fun _ => none := by
    funext j
    simp [tls]
  have okb0 : okb (fun _ => 0) := fun j => (⟨by decide, by decide⟩ : (0 : Int) ≤ 0 ∧ (0 : Int) ≤ 255)
  have z : ∀ n : Int, 0 ≤ n → (0 : Int) ≤ 0 ∧ (0 : Int) ≤ n := fun n h => ⟨Int.le_refl 0, h⟩
  have o5 : oki 0 255 (fun _ => 0) := oki_c0 (by decide) (by decide)
  have o3 : oki 0 300 (fun _ => 0) := oki_c0 (by decide) (by decide)
  have mc : ∀ m, m = 15 ∨ m = 20 ∨ m = 25 → MCx H2 m 0 0 0 0 0 0 0 0 (fun _ => 0) (fun _ => 0) (fun _ => 0) := by
    rintro m (rfl | rfl | rfl)
    · exact ⟨z _ (by decide), z _ (by decide), z _ (by decide), Or.inl rfl, z _ (by decide), z _ (by decide), z _ (by decide), z _ (by decide), o5, o5, o3, rfl, rfl, rfl, rfl, rfl⟩
    · exact ⟨z _ (by decide), z _ (by decide), z _ (by decide), Or.inl rfl, z _ (by decide), z _ (by decide), z _ (by decide), z _ (by decide), o5, o5, o3, rfl, rfl, rfl, rfl, rfl⟩
    · exact ⟨z _ (by decide), z _ (by decide), z _ (by decide), Or.inl rfl, z _ (by decide), z _ (by decide), z _ (by decide), z _ (by decide), o5, o5, o3, rfl, rfl, rfl, rfl, rfl⟩
  refine ⟨⟨rfl, rfl, by rw [e4]; rfl, by decide, fun j hj => ?_, fun j hj => by omega⟩, ⟨⟨0, fun _ => 0, fun _ => 0, z _ (by decide), o5, o3, rfl, rfl, rfl, rfl⟩, ⟨0, fun _ => 0, fun _ => 0, 0, -9, fun _ => 0, fun _ => 0, z _ (by decide), ⟨by decide, by decide⟩, z _ (by decide), oki_c0 (by decide) (by decide), oki_c0 (by decide) (by decide), o5, o3, rfl, rfl, rfl, rfl, rfl, rfl⟩, ⟨_, _, _, _, _, _, _, _, _, _, _, mc 20 (by omega)⟩, ⟨_, _, _, _, _, _, _, _, _, _, _, mc 25 (by omega)⟩⟩, ⟨0, 0, fun _ => 0, mc 15 (by omega)⟩, ⟨rfl, rfl, by decide, by decide, okb0⟩, ⟨fun _ => 0, fun _ => 0, fun _ => 0, okr_c0, okr_c0, okr_c0, by decide, by decide, rfl, rfl, rfl, rfl⟩, by decide +kernel, by decide +kernel⟩
  match j, hj with
  | 0, _ => exact ⟨rfl, rfl, by decide, by decide, okb0⟩
  | 1, _ => exact ⟨rfl, rfl, by decide, by decide, okb0⟩
  | 2, _ => exact ⟨rfl, rfl, by decide, by decide, okb0⟩
  | 3, _ => exact ⟨rfl, rfl, by decide, by decide, okb0⟩
  | 4, _ => exact ⟨rfl, rfl, by decide, by decide, okb0⟩
  | 5, _ => exact ⟨rfl, rfl, by decide, by decide, okb0⟩
  | 6, _ => exact ⟨rfl, rfl, by decide, by decide, okb0⟩
  | 7, _ => exact ⟨rfl, rfl, by decide, by decide, okb0⟩
  | k + 8, hk => omega
set_option maxRecDepth 100000 in
theorem r9_H2 : R9B H2 0 (fun _ => 0) (fun _ => 0) (fun _ => 0) (fun _ _ => 0) := by
  refine ⟨rfl, ⟨rfl, rfl, rfl, rfl, rfl, rfl, rfl, rfl, rfl, rfl, rfl, rfl, rfl, rfl, rfl, rfl, rfl, rfl, rfl, rfl, okB_0, okB_0⟩, ?_, ?_, ⟨⟨by decide, by decide⟩, fun t h0 h1 => by have h1' : t < 0 := h1; omega⟩⟩
  · exact ⟨⟨by decide, by decide⟩, ⟨by decide, by decide⟩, ⟨by decide, by decide⟩, ⟨by decide, by decide⟩, ⟨by decide, by decide⟩, ⟨by decide, by decide⟩, ⟨by decide, by decide⟩, ⟨by decide, by decide⟩, ⟨by decide, by decide⟩, ⟨by decide, by decide⟩, ⟨by decide, by decide⟩, ⟨by decide, by decide⟩, ⟨by decide, by decide⟩, ⟨by decide, by decide⟩, ⟨by decide, by decide⟩, ⟨by decide, by decide⟩, ⟨by decide, by decide⟩, ⟨by decide, by decide⟩⟩
  · exact ⟨oki_c0 (by decide) (by decide), okr_c0, oki_c0 (by decide) (by decide), oki_c0 (by decide) (by decide), okr_c0, oki_c0 (by decide) (by decide), oki_c0 (by decide) (by decide), okr_c0, oki_c0 (by decide) (by decide), oki_c0 (by decide) (by decide), oki_c0 (by decide) (by decide), oki_c0 (by decide) (by decide), okr_c0, okr_c0, okr_c0, oki_c0 (by decide) (by decide), oki_c0 (by decide) (by decide), okr_c0⟩
theorem li_H2 : LI H2 := ⟨0, fun _ => 0, fun _ => 0, fun _ _ => 0, 0, 0, 0, fun _ _ => 0, fun _ _ => 0, fun _ _ => 0, fun _ => 0, fun _ => 0, fun _ => 0, fun _ => 0, fun _ => 0, fun _ => 0, fun _ _ => 0, ix_H2, r9_H2, ⟨rfl, rfl, fun _ _ => rfl, fun j hj => by omega, fun i _ j hj => by have hj' : (j : Int) < 0 := hj; omega⟩, ⟨rfl, fun j hj => by omega⟩, ⟨⟨rfl, rfl, rfl, rfl, rfl, rfl⟩, fun _ _ => rfl, fun _ _ => rfl⟩⟩
theorem LI.bd {h : MH} (H : LI h) : h.length ≤ 600000 ∧ msz h ≤ 7302250 := by
  obtain ⟨tn, tf, xn, xf, en, tc, tr, V, Bf, Lf, q, lm, lo, ty, tx, w, B, HX, -⟩ := H
  exact HX.bd
