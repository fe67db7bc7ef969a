/-! ===== act, on both sides; the start ===== -/
theorem actX_le {W ho h1 T : Nat → Int32} {a act x : Int32} : (actX W ho h1 a act x T).2.2 ≤ 30 := by
  unfold actX
  split
  · exact actK_le (Nat.zero_le 30)
  · exact Nat.zero_le 30
theorem tw_act (g : pG) {S : pS} (hS : sOk S) (h : RS S) (s act x : Int32) : TwI g mX11_act mX12_act 12 9 [.int s, .int act, .int x] S := by
  obtain ⟨⟨hE, hC, hD⟩, q2, q3, q4, q5, q6, q7, ⟨e46, t8, ht8, t45, t54⟩⟩ := h
  refine ⟨_, s_X11_act g hS hC.1 hC.2.1 q7 s act x, fun x1 S1 q => ?_⟩
  obtain ⟨e1, f1, v46, v45⟩ := q
  have e55 : S1.2.2.2 55 = S.2.2.2 55 := f1.2 55 (by decide)
  have e68 : S1.2.2.2 68 = S.2.2.2 68 := f1.2 68 (by decide)
  have e69 : S1.2.2.2 69 = S.2.2.2 69 := f1.2 69 (by decide)
  have e70 : S1.2.2.2 70 = S.2.2.2 70 := f1.2 70 (by decide)
  refine ⟨f1.ok hS, _, s_X12_act g (f1.ok hS) (by rw [e55]; exact hD.1) (by rw [e55]; exact fun k hk => (hD.2.1.2.2 k hk).1) s act x, fun y1 S2 q => ?_⟩
  obtain ⟨k2, e2, v70, v54⟩ := q
  have ff : FF [45, 46, 48, 49, 50, 51, 52, 53] [70] [24, 25, 26] S S1 S2 := ⟨f1, k2⟩
  have ok : okK [70] := by unfold okK; decide
  have key : actX (S1.2.2.2 55) (S1.2.2.2 68) (S1.2.2.2 69) s act x (S1.2.2.2 70) = actX (vw S 1) (S.2.2.2 68) (S.2.2.2 69) s act x (S.2.2.2 46) := by
    rw [e55, e68, e69, e70, e46]
    exact (hE.q_act hD.1).symm
  rw [key] at e2 v70 v54
  refine ⟨e2.trans e1.symm, k2.1, ff.k1 ok (by unfold off; decide) (by decide) ⟨hE, hC, hD⟩, ff.k2 ok (by unfold off; decide) q2, ff.k3 ok (by unfold off; decide) (congrFun (f1.2 0 (by decide)) 3) (by decide) (by decide) q3, ff.k4 ok (by unfold off; decide) (by unfold off; decide) (by decide) q4, ff.k5 ok (by unfold off; decide) (by decide) (by decide) q5, ff.k6 ok (by unfold off; decide) (by unfold off; decide) q6, ff.k7 ok (by unfold off; decide) (by unfold off; decide) q7, ⟨?_, _, actX_le, ?_, v54⟩⟩
  · rw [k2.2.1 46 (by decide) (by decide), v46, v70]
  · rw [k2.2.1 45 (by decide) (by decide)]
    exact v45
theorem start_RS {l : List (Nat × Nat × Nat)} {M M1 : Nat → Nat → Int32} (hv1 : vw (Nw 54 l M) 1 = coB) (hv10 : vw (Nw 54 l M) 10 = coB) (hz : ∀ q, q ∈ zC → M q = fun _ => 0) (hm : ∀ j, j < 4 → M (34 + 2 * j) = upd (fun _ => 0) 0 (-1)) (lo : ∀ q, q < 54 → M1 q = M q) (h55 : M1 55 = reB) (h62 : M1 62 = fun x => if x < 112 then ltr x else 0) (h65 : M1 65 = m1A) (h68 : M1 68 = m1A) (hz2 : ∀ q, q ∈ zM → M1 q = fun _ => 0) : RS (Gs M1) := by
  have vv : ∀ b, b + 6 < 54 → vw (Gs M1) b = vw (Nw 54 l M) b := fun b hb => vw_cong (fun c hc => lo _ (by omega))
  have z : ∀ q, q ∈ zC → q < 54 → (Gs M1).2.2.2 q = fun _ => 0 := fun q hq h => (lo q h).trans (hz q hq)
  have z2 : ∀ q, q ∈ zM → (Gs M1).2.2.2 q = fun _ => 0 := hz2
  have z54 := z2 54 (by decide)
  refine ⟨?_, ?_, ?_, ?_, ?_, ?_, ?_, ?_⟩
  · unfold c1
    rw [vv 1 (by omega), hv1, show (Gs M1).2.2.2 55 = reB from h55]
    exact ⟨start_E, coB_CI, reB_CI⟩
  · unfold IT
    rw [vv 10 (by omega), hv10]
    exact ⟨coB_CI.1, coB_CI.2.1⟩
  · unfold c3
    rw [z 0 (by decide) (by omega), z54]
    exact ⟨rfl, Or.inl rfl⟩
  · unfold c4
    rw [z 29 (by decide) (by omega), z54, z 30 (by decide) (by omega), z2 61 (by decide), show (Gs M1).2.2.2 62 = _ from h62]
    exact ⟨⟨0, by omega, rfl, rfl⟩, BR_0, fun x hx => if_pos hx⟩
  · unfold c5
    rw [z 0 (by decide) (by omega), z54, z 31 (by decide) (by omega), z2 63 (by decide)]
    exact ⟨rfl, 0, by omega, rfl, rfl⟩
  · unfold c6
    rw [show (Gs M1).2.2.2 65 = m1A from h65, z2 66 (by decide), z2 67 (by decide)]
    have ej : ∀ j, j < 4 → m1A j = -1 := by decide
    refine ⟨fun j hj => ⟨?_, ?_, fun i hi => ?_⟩, fun j hj => ⟨Or.inl (ej j hj), 0, by omega, rfl⟩⟩
    · rw [show (Gs M1).2.2.2 (34 + 2 * j) = _ from (lo _ (by omega)).trans (hm j hj), ej j hj]
      rfl
    · rw [show (Gs M1).2.2.2 (34 + 2 * j) = _ from (lo _ (by omega)).trans (hm j hj)]
      rfl
    · rw [z (34 + 2 * j + 1) (by rcases (by omega : j = 0 ∨ j = 1 ∨ j = 2 ∨ j = 3) with rfl | rfl | rfl | rfl <;> decide) (by omega)]
  · unfold c7
    rw [show (Gs M1).2.2.2 68 = m1A from h68, z2 69 (by decide)]
    intro j hj
    rw [z 42 (by decide) (by omega), z 43 (by decide) (by omega), z 44 (by decide) (by omega), (by decide : ∀ j, j < 4 → m1A j = -1) j hj]
    exact Or.inl ⟨rfl, rfl⟩
  · unfold c8
    rw [z 46 (by decide) (by omega), z2 70 (by decide), z 45 (by decide) (by omega), z54]
    exact ⟨rfl, 0, by omega, rfl, rfl⟩
