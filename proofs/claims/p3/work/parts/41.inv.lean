def gA : List Nat := [21, 22, 29, 34, 38, 42, 43, 52, 53, 54, 55, 56, 57, 58, 59]
theorem GX.kept2 {σ τ : St}  (g : GX σ) (h : K cF gA σ τ) : GX τ := by
  obtain ⟨g1, g2, g3, g4, g5, g6, g7, g8⟩ := g
  refine ⟨?_, ?_, ?_, ?_, ?_, ?_, ?_, ?_⟩
  · unfold gTape at *; rw [h.1 3 (by decide)]; exact g1
  · unfold gBook at *; rw [h.1 7 (by decide), h.2 21 (by decide), h.2 22 (by decide)]; exact g2
  · unfold gDeaths at *; rw [h.1 9 (by decide), h.2 29 (by decide)]; exact g3
  · unfold gSprings at *; rw [h.1 10 (by decide), h.1 11 (by decide), h.2 34 (by decide)]; exact g4
  · unfold gCastles at *; rw [h.1 12 (by decide), h.2 38 (by decide)]; exact g5
  · unfold gNozzles at *; rw [h.1 13 (by decide), h.2 42 (by decide), h.2 43 (by decide)]; exact g6
  · unfold gRest at *; rw [h.1 14 (by decide), h.1 15 (by decide), h.1 1 (by decide), h.1 0 (by decide)]; exact g7
  · unfold gGroups at *; rw [h.2 52 (by decide), h.2 53 (by decide), h.2 54 (by decide), h.2 55 (by decide), h.2 56 (by decide), h.2 57 (by decide), h.2 58 (by decide), h.2 59 (by decide)]; exact g8

theorem gx_0 {σ τ : St} {k : Nat} (e : τ.1 0 = nI k) (hk : k ≤ 40) (g : GX σ) (h : K [1, 3, 7, 9, 10, 11, 12, 13, 14, 15] [21, 22, 29, 34, 38, 42, 43, 52, 53, 54, 55, 56, 57, 58, 59] σ τ) : GX τ := by
  obtain ⟨g1, g2, g3, g4, g5, g6, g7, g8⟩ := g
  refine ⟨?_, ?_, ?_, ?_, ?_, ?_, ?_, ?_⟩
  · unfold gTape at *; rw [h.1 3 (by decide)]; exact g1
  · unfold gBook at *; rw [h.1 7 (by decide), h.2 21 (by decide), h.2 22 (by decide)]; exact g2
  · unfold gDeaths at *; rw [h.1 9 (by decide), h.2 29 (by decide)]; exact g3
  · unfold gSprings at *; rw [h.1 10 (by decide), h.1 11 (by decide), h.2 34 (by decide)]; exact g4
  · unfold gCastles at *; rw [h.1 12 (by decide), h.2 38 (by decide)]; exact g5
  · unfold gNozzles at *; rw [h.1 13 (by decide), h.2 42 (by decide), h.2 43 (by decide)]; exact g6
  · exact ⟨by rw [h.1 14 (by decide)]; exact g7.1, by rw [h.1 15 (by decide)]; exact g7.2.1, by rw [h.1 1 (by decide)]; exact g7.2.2.1, ⟨k, hk, e⟩⟩
  · unfold gGroups at *; rw [h.2 52 (by decide), h.2 53 (by decide), h.2 54 (by decide), h.2 55 (by decide), h.2 56 (by decide), h.2 57 (by decide), h.2 58 (by decide), h.2 59 (by decide)]; exact g8

theorem gx_1 {σ τ : St} {k : Nat} (e : τ.1 1 = nI k) (hk : k ≤ 200) (g : GX σ) (h : K [0, 3, 7, 9, 10, 11, 12, 13, 14, 15] [21, 22, 29, 34, 38, 42, 43, 52, 53, 54, 55, 56, 57, 58, 59] σ τ) : GX τ := by
  obtain ⟨g1, g2, g3, g4, g5, g6, g7, g8⟩ := g
  refine ⟨?_, ?_, ?_, ?_, ?_, ?_, ?_, ?_⟩
  · unfold gTape at *; rw [h.1 3 (by decide)]; exact g1
  · unfold gBook at *; rw [h.1 7 (by decide), h.2 21 (by decide), h.2 22 (by decide)]; exact g2
  · unfold gDeaths at *; rw [h.1 9 (by decide), h.2 29 (by decide)]; exact g3
  · unfold gSprings at *; rw [h.1 10 (by decide), h.1 11 (by decide), h.2 34 (by decide)]; exact g4
  · unfold gCastles at *; rw [h.1 12 (by decide), h.2 38 (by decide)]; exact g5
  · unfold gNozzles at *; rw [h.1 13 (by decide), h.2 42 (by decide), h.2 43 (by decide)]; exact g6
  · exact ⟨by rw [h.1 14 (by decide)]; exact g7.1, by rw [h.1 15 (by decide)]; exact g7.2.1, ⟨k, hk, e⟩, by rw [h.1 0 (by decide)]; exact g7.2.2.2⟩
  · unfold gGroups at *; rw [h.2 52 (by decide), h.2 53 (by decide), h.2 54 (by decide), h.2 55 (by decide), h.2 56 (by decide), h.2 57 (by decide), h.2 58 (by decide), h.2 59 (by decide)]; exact g8

theorem gx_3 {σ τ : St} {k : Nat} (e : τ.1 3 = nI k) (hk : k ≤ 400) (g : GX σ) (h : K [0, 1, 7, 9, 10, 11, 12, 13, 14, 15] [21, 22, 29, 34, 38, 42, 43, 52, 53, 54, 55, 56, 57, 58, 59] σ τ) : GX τ := by
  obtain ⟨g1, g2, g3, g4, g5, g6, g7, g8⟩ := g
  refine ⟨?_, ?_, ?_, ?_, ?_, ?_, ?_, ?_⟩
  · exact ⟨k, hk, e⟩
  · unfold gBook at *; rw [h.1 7 (by decide), h.2 21 (by decide), h.2 22 (by decide)]; exact g2
  · unfold gDeaths at *; rw [h.1 9 (by decide), h.2 29 (by decide)]; exact g3
  · unfold gSprings at *; rw [h.1 10 (by decide), h.1 11 (by decide), h.2 34 (by decide)]; exact g4
  · unfold gCastles at *; rw [h.1 12 (by decide), h.2 38 (by decide)]; exact g5
  · unfold gNozzles at *; rw [h.1 13 (by decide), h.2 42 (by decide), h.2 43 (by decide)]; exact g6
  · unfold gRest at *; rw [h.1 14 (by decide), h.1 15 (by decide), h.1 1 (by decide), h.1 0 (by decide)]; exact g7
  · unfold gGroups at *; rw [h.2 52 (by decide), h.2 53 (by decide), h.2 54 (by decide), h.2 55 (by decide), h.2 56 (by decide), h.2 57 (by decide), h.2 58 (by decide), h.2 59 (by decide)]; exact g8

theorem gx_10 {σ τ : St} {k : Nat} (e : τ.1 10 = nI k) (hk : k ≤ 4) (g : GX σ) (h : K [0, 1, 3, 7, 9, 11, 12, 13, 14, 15] [21, 22, 29, 34, 38, 42, 43, 52, 53, 54, 55, 56, 57, 58, 59] σ τ) : GX τ := by
  obtain ⟨g1, g2, g3, g4, g5, g6, g7, g8⟩ := g
  refine ⟨?_, ?_, ?_, ?_, ?_, ?_, ?_, ?_⟩
  · unfold gTape at *; rw [h.1 3 (by decide)]; exact g1
  · unfold gBook at *; rw [h.1 7 (by decide), h.2 21 (by decide), h.2 22 (by decide)]; exact g2
  · unfold gDeaths at *; rw [h.1 9 (by decide), h.2 29 (by decide)]; exact g3
  · obtain ⟨q9, n9, h1, h2, h3, h4, h5⟩ := g4; exact ⟨k, n9, hk, e, h3, by rw [h.1 11 (by decide)]; exact h4, by rw [h.2 34 (by decide)]; exact h5⟩
  · unfold gCastles at *; rw [h.1 12 (by decide), h.2 38 (by decide)]; exact g5
  · unfold gNozzles at *; rw [h.1 13 (by decide), h.2 42 (by decide), h.2 43 (by decide)]; exact g6
  · unfold gRest at *; rw [h.1 14 (by decide), h.1 15 (by decide), h.1 1 (by decide), h.1 0 (by decide)]; exact g7
  · unfold gGroups at *; rw [h.2 52 (by decide), h.2 53 (by decide), h.2 54 (by decide), h.2 55 (by decide), h.2 56 (by decide), h.2 57 (by decide), h.2 58 (by decide), h.2 59 (by decide)]; exact g8

theorem gx_9 {σ τ : St} {n : Nat} {x : Int32} (hn : σ.1 9 = nI n) (e : τ.1 9 = nI (n + 1)) (hk : n < 60) (e29 : τ.2.1 29 = upd (σ.2.1 29) n x) (hx : vp_in x 40) (g : GX σ) (h : K [0, 1, 3, 7, 10, 11, 12, 13, 14, 15] [21, 22, 34, 38, 42, 43, 52, 53, 54, 55, 56, 57, 58, 59] σ τ) : GX τ := by
  obtain ⟨g1, g2, g3, g4, g5, g6, g7, g8⟩ := g
  refine ⟨?_, ?_, ?_, ?_, ?_, ?_, ?_, ?_⟩
  · unfold gTape at *; rw [h.1 3 (by decide)]; exact g1
  · unfold gBook at *; rw [h.1 7 (by decide), h.2 21 (by decide), h.2 22 (by decide)]; exact g2
  · obtain ⟨n9, h1, h2, h3⟩ := g3; have e9 : n9 = n := (nI_eq (by omega) (by omega)).mp (h2.symm.trans hn); subst e9; refine ⟨n9 + 1, by omega, e, fun i hi => ?_⟩; rw [e29]; exact up_in (P := fun _ z => vp_in z 40) h3 hx hi
  · unfold gSprings at *; rw [h.1 10 (by decide), h.1 11 (by decide), h.2 34 (by decide)]; exact g4
  · unfold gCastles at *; rw [h.1 12 (by decide), h.2 38 (by decide)]; exact g5
  · unfold gNozzles at *; rw [h.1 13 (by decide), h.2 42 (by decide), h.2 43 (by decide)]; exact g6
  · unfold gRest at *; rw [h.1 14 (by decide), h.1 15 (by decide), h.1 1 (by decide), h.1 0 (by decide)]; exact g7
  · unfold gGroups at *; rw [h.2 52 (by decide), h.2 53 (by decide), h.2 54 (by decide), h.2 55 (by decide), h.2 56 (by decide), h.2 57 (by decide), h.2 58 (by decide), h.2 59 (by decide)]; exact g8

theorem gx_11 {σ τ : St} {k : Nat} (e : τ.1 11 = nI k) (hk : k ≤ 60) (h34 : ∀ i, i < k → vp_in (τ.2.1 34 i) 4) (g : GX σ) (h : K [0, 1, 3, 7, 9, 10, 12, 13, 14, 15] [21, 22, 29, 38, 42, 43, 52, 53, 54, 55, 56, 57, 58, 59] σ τ) : GX τ := by
  obtain ⟨g1, g2, g3, g4, g5, g6, g7, g8⟩ := g
  refine ⟨?_, ?_, ?_, ?_, ?_, ?_, ?_, ?_⟩
  · unfold gTape at *; rw [h.1 3 (by decide)]; exact g1
  · unfold gBook at *; rw [h.1 7 (by decide), h.2 21 (by decide), h.2 22 (by decide)]; exact g2
  · unfold gDeaths at *; rw [h.1 9 (by decide), h.2 29 (by decide)]; exact g3
  · obtain ⟨q9, n9, h1, h2, h3, h4, h5⟩ := g4; exact ⟨q9, k, h1, by rw [h.1 10 (by decide)]; exact h2, hk, e, h34⟩
  · unfold gCastles at *; rw [h.1 12 (by decide), h.2 38 (by decide)]; exact g5
  · unfold gNozzles at *; rw [h.1 13 (by decide), h.2 42 (by decide), h.2 43 (by decide)]; exact g6
  · unfold gRest at *; rw [h.1 14 (by decide), h.1 15 (by decide), h.1 1 (by decide), h.1 0 (by decide)]; exact g7
  · unfold gGroups at *; rw [h.2 52 (by decide), h.2 53 (by decide), h.2 54 (by decide), h.2 55 (by decide), h.2 56 (by decide), h.2 57 (by decide), h.2 58 (by decide), h.2 59 (by decide)]; exact g8

theorem gm_3 {σ τ : St} {k : Nat} (e : τ.1 3 = nI k) (hk : k ≤ 4) (g : GM 40 σ) (h : K [2, 4, 5, 6, 7, 8, 9, 10, 11, 13] [6, 12] σ τ) : GM 40 τ := by
  obtain ⟨g1, g2, g3, g4, g5, g6, g7, g8, g9, g10, g11⟩ := g
  refine ⟨?_, ?_, ?_, ?_, ?_, ?_, ?_, ?_, ?_, ?_, ?_⟩
  · exact ⟨k, hk, e⟩
  · rw [h.1 4 (by decide)]; exact g2
  · rw [h.1 5 (by decide), h.2 6 (by decide)]; exact g3
  · rw [h.1 6 (by decide)]; exact g4
  · rw [h.1 7 (by decide)]; exact g5
  · rw [h.1 8 (by decide), h.2 12 (by decide)]; exact g6
  · rw [h.1 9 (by decide)]; exact g7
  · rw [h.1 10 (by decide)]; exact g8
  · rw [h.1 11 (by decide)]; exact g9
  · rw [h.1 13 (by decide)]; exact g10
  · rw [h.1 2 (by decide)]; exact g11

theorem gm_4 {σ τ : St} {k : Nat} (e : τ.1 4 = nI k) (hk : k ≤ 60) (g : GM 40 σ) (h : K [2, 3, 5, 6, 7, 8, 9, 10, 11, 13] [6, 12] σ τ) : GM 40 τ := by
  obtain ⟨g1, g2, g3, g4, g5, g6, g7, g8, g9, g10, g11⟩ := g
  refine ⟨?_, ?_, ?_, ?_, ?_, ?_, ?_, ?_, ?_, ?_, ?_⟩
  · rw [h.1 3 (by decide)]; exact g1
  · exact ⟨k, hk, e⟩
  · rw [h.1 5 (by decide), h.2 6 (by decide)]; exact g3
  · rw [h.1 6 (by decide)]; exact g4
  · rw [h.1 7 (by decide)]; exact g5
  · rw [h.1 8 (by decide), h.2 12 (by decide)]; exact g6
  · rw [h.1 9 (by decide)]; exact g7
  · rw [h.1 10 (by decide)]; exact g8
  · rw [h.1 11 (by decide)]; exact g9
  · rw [h.1 13 (by decide)]; exact g10
  · rw [h.1 2 (by decide)]; exact g11

theorem gm_6 {σ τ : St} {k : Nat} (e : τ.1 6 = nI k) (hk : k ≤ 40) (g : GM 40 σ) (h : K [2, 3, 4, 5, 7, 8, 9, 10, 11, 13] [6, 12] σ τ) : GM 40 τ := by
  obtain ⟨g1, g2, g3, g4, g5, g6, g7, g8, g9, g10, g11⟩ := g
  refine ⟨?_, ?_, ?_, ?_, ?_, ?_, ?_, ?_, ?_, ?_, ?_⟩
  · rw [h.1 3 (by decide)]; exact g1
  · rw [h.1 4 (by decide)]; exact g2
  · rw [h.1 5 (by decide), h.2 6 (by decide)]; exact g3
  · exact ⟨k, hk, e⟩
  · rw [h.1 7 (by decide)]; exact g5
  · rw [h.1 8 (by decide), h.2 12 (by decide)]; exact g6
  · rw [h.1 9 (by decide)]; exact g7
  · rw [h.1 10 (by decide)]; exact g8
  · rw [h.1 11 (by decide)]; exact g9
  · rw [h.1 13 (by decide)]; exact g10
  · rw [h.1 2 (by decide)]; exact g11

theorem gm_7 {σ τ : St} {k : Nat} (e : τ.1 7 = nI k) (hk : k ≤ 60) (g : GM 40 σ) (h : K [2, 3, 4, 5, 6, 8, 9, 10, 11, 13] [6, 12] σ τ) : GM 40 τ := by
  obtain ⟨g1, g2, g3, g4, g5, g6, g7, g8, g9, g10, g11⟩ := g
  refine ⟨?_, ?_, ?_, ?_, ?_, ?_, ?_, ?_, ?_, ?_, ?_⟩
  · rw [h.1 3 (by decide)]; exact g1
  · rw [h.1 4 (by decide)]; exact g2
  · rw [h.1 5 (by decide), h.2 6 (by decide)]; exact g3
  · rw [h.1 6 (by decide)]; exact g4
  · exact ⟨k, hk, e⟩
  · rw [h.1 8 (by decide), h.2 12 (by decide)]; exact g6
  · rw [h.1 9 (by decide)]; exact g7
  · rw [h.1 10 (by decide)]; exact g8
  · rw [h.1 11 (by decide)]; exact g9
  · rw [h.1 13 (by decide)]; exact g10
  · rw [h.1 2 (by decide)]; exact g11

theorem gm_9 {σ τ : St} {k : Nat} (e : τ.1 9 = nI k) (hk : k ≤ 60) (g : GM 40 σ) (h : K [2, 3, 4, 5, 6, 7, 8, 10, 11, 13] [6, 12] σ τ) : GM 40 τ := by
  obtain ⟨g1, g2, g3, g4, g5, g6, g7, g8, g9, g10, g11⟩ := g
  refine ⟨?_, ?_, ?_, ?_, ?_, ?_, ?_, ?_, ?_, ?_, ?_⟩
  · rw [h.1 3 (by decide)]; exact g1
  · rw [h.1 4 (by decide)]; exact g2
  · rw [h.1 5 (by decide), h.2 6 (by decide)]; exact g3
  · rw [h.1 6 (by decide)]; exact g4
  · rw [h.1 7 (by decide)]; exact g5
  · rw [h.1 8 (by decide), h.2 12 (by decide)]; exact g6
  · exact ⟨k, hk, e⟩
  · rw [h.1 10 (by decide)]; exact g8
  · rw [h.1 11 (by decide)]; exact g9
  · rw [h.1 13 (by decide)]; exact g10
  · rw [h.1 2 (by decide)]; exact g11

theorem gm_10 {σ τ : St} {k : Nat} (e : τ.1 10 = nI k) (hk : k ≤ 40) (g : GM 40 σ) (h : K [2, 3, 4, 5, 6, 7, 8, 9, 11, 13] [6, 12] σ τ) : GM 40 τ := by
  obtain ⟨g1, g2, g3, g4, g5, g6, g7, g8, g9, g10, g11⟩ := g
  refine ⟨?_, ?_, ?_, ?_, ?_, ?_, ?_, ?_, ?_, ?_, ?_⟩
  · rw [h.1 3 (by decide)]; exact g1
  · rw [h.1 4 (by decide)]; exact g2
  · rw [h.1 5 (by decide), h.2 6 (by decide)]; exact g3
  · rw [h.1 6 (by decide)]; exact g4
  · rw [h.1 7 (by decide)]; exact g5
  · rw [h.1 8 (by decide), h.2 12 (by decide)]; exact g6
  · rw [h.1 9 (by decide)]; exact g7
  · exact ⟨k, hk, e⟩
  · rw [h.1 11 (by decide)]; exact g9
  · rw [h.1 13 (by decide)]; exact g10
  · rw [h.1 2 (by decide)]; exact g11

theorem gm_13 {σ τ : St} {k : Nat} (e : τ.1 13 = nI k) (hk : k ≤ 400) (g : GM 40 σ) (h : K [2, 3, 4, 5, 6, 7, 8, 9, 10, 11] [6, 12] σ τ) : GM 40 τ := by
  obtain ⟨g1, g2, g3, g4, g5, g6, g7, g8, g9, g10, g11⟩ := g
  refine ⟨?_, ?_, ?_, ?_, ?_, ?_, ?_, ?_, ?_, ?_, ?_⟩
  · rw [h.1 3 (by decide)]; exact g1
  · rw [h.1 4 (by decide)]; exact g2
  · rw [h.1 5 (by decide), h.2 6 (by decide)]; exact g3
  · rw [h.1 6 (by decide)]; exact g4
  · rw [h.1 7 (by decide)]; exact g5
  · rw [h.1 8 (by decide), h.2 12 (by decide)]; exact g6
  · rw [h.1 9 (by decide)]; exact g7
  · rw [h.1 10 (by decide)]; exact g8
  · rw [h.1 11 (by decide)]; exact g9
  · exact ⟨k, hk, e⟩
  · rw [h.1 2 (by decide)]; exact g11

theorem gm_2 {σ τ : St} {k : Nat} (e : τ.1 2 = nI k) (hk : k ≤ 200) (g : GM 40 σ) (h : K [3, 4, 5, 6, 7, 8, 9, 10, 11, 13] [6, 12] σ τ) : GM 40 τ := by
  obtain ⟨g1, g2, g3, g4, g5, g6, g7, g8, g9, g10, g11⟩ := g
  refine ⟨?_, ?_, ?_, ?_, ?_, ?_, ?_, ?_, ?_, ?_, ?_⟩
  · rw [h.1 3 (by decide)]; exact g1
  · rw [h.1 4 (by decide)]; exact g2
  · rw [h.1 5 (by decide), h.2 6 (by decide)]; exact g3
  · rw [h.1 6 (by decide)]; exact g4
  · rw [h.1 7 (by decide)]; exact g5
  · rw [h.1 8 (by decide), h.2 12 (by decide)]; exact g6
  · rw [h.1 9 (by decide)]; exact g7
  · rw [h.1 10 (by decide)]; exact g8
  · rw [h.1 11 (by decide)]; exact g9
  · rw [h.1 13 (by decide)]; exact g10
  · exact ⟨k, hk, e⟩

theorem gm_5 {σ τ : St} {n : Nat} {y : Int32} (hn : σ.1 5 = nI n) (e : τ.1 5 = nI (n + 1)) (hk : n < 12) (e6 : τ.2.1 6 = upd (σ.2.1 6) n y) (hy : WT y) (g : GM 40 σ) (h : K [2, 3, 4, 6, 7, 8, 9, 10, 11, 13] [12] σ τ) : GM 40 τ := by
  obtain ⟨g1, g2, g3, g4, g5, g6, g7, g8, g9, g10, g11⟩ := g
  refine ⟨?_, ?_, ?_, ?_, ?_, ?_, ?_, ?_, ?_, ?_, ?_⟩
  · rw [h.1 3 (by decide)]; exact g1
  · rw [h.1 4 (by decide)]; exact g2
  · obtain ⟨n9, h1, h2, h3⟩ := g3; have e9 : n9 = n := (nI_eq (by omega) (by omega)).mp (h2.symm.trans hn); subst e9; refine ⟨n9 + 1, by omega, e, fun i hi => ?_⟩; rw [e6]; exact up_in (P := fun _ z => WT z) h3 hy hi
  · rw [h.1 6 (by decide)]; exact g4
  · rw [h.1 7 (by decide)]; exact g5
  · rw [h.1 8 (by decide), h.2 12 (by decide)]; exact g6
  · rw [h.1 9 (by decide)]; exact g7
  · rw [h.1 10 (by decide)]; exact g8
  · rw [h.1 11 (by decide)]; exact g9
  · rw [h.1 13 (by decide)]; exact g10
  · rw [h.1 2 (by decide)]; exact g11


theorem GM.kept2 {R : Nat} {σ τ : St} (g : GM R σ) (h : K mF [6, 12] σ τ) : GM R τ := by
  unfold GM at *
  rw [h.1 2 (by decide), h.1 3 (by decide), h.1 4 (by decide), h.1 5 (by decide), h.1 6 (by decide), h.1 7 (by decide), h.1 8 (by decide), h.1 9 (by decide), h.1 10 (by decide), h.1 11 (by decide), h.1 13 (by decide), h.2 6 (by decide), h.2 12 (by decide)]
  exact g
/-! ===== what class and reference have in common ===== -/
def cpF : List (Nat × Nat) := [(0, 6), (1, 2), (3, 13), (9, 7), (10, 3), (11, 4), (12, 5), (14, 9), (15, 10)]
def cpR : List (Nat × Nat) := [(29, 8), (30, 9), (31, 10), (34, 2), (35, 3)]
def CPL (σ μ : St) : Prop := (∀ q ∈ cpF, σ.1 q.1 = μ.1 q.2) ∧ ∀ q ∈ cpR, σ.2.1 q.1 = μ.2.1 q.2
theorem CPL.step {fs rs fs' rs' : List Nat} {σ τ μ ν : St} (exF exR : List (Nat × Nat)) (c : CPL σ μ) (h : K fs rs σ τ) (h' : K fs' rs' μ ν) (d1 : ∀ q ∈ cpF, q ∈ exF ∨ (q.1 ∈ fs ∧ q.2 ∈ fs')) (d2 : ∀ q ∈ cpR, q ∈ exR ∨ (q.1 ∈ rs ∧ q.2 ∈ rs')) (e1 : ∀ q ∈ exF, τ.1 q.1 = ν.1 q.2) (e2 : ∀ q ∈ exR, τ.2.1 q.1 = ν.2.1 q.2) : CPL τ ν :=
  ⟨fun q hq => (d1 q hq).elim (e1 q) (fun z => (h.1 _ z.1).trans ((c.1 q hq).trans (h'.1 _ z.2).symm)), fun q hq => (d2 q hq).elim (e2 q) (fun z => (h.2 _ z.1).trans ((c.2 q hq).trans (h'.2 _ z.2).symm))⟩
theorem ex0 {P : Nat × Nat → Prop} : ∀ q ∈ ([] : List (Nat × Nat)), P q := fun _ h => absurd h List.not_mem_nil
theorem ex1 {P : Nat × Nat → Prop} {a : Nat × Nat} (e : P a) : ∀ q ∈ [a], P q := fun q hq => by rw [List.mem_singleton.mp hq]; exact e
theorem ex2 {P : Nat × Nat → Prop} {a b : Nat × Nat} (e : P a) (e2 : P b) : ∀ q ∈ [a, b], P q := List.forall_mem_cons.mpr ⟨e, ex1 e2⟩
theorem ex3 {P : Nat × Nat → Prop} {a b c : Nat × Nat} (e : P a) (e2 : P b) (e3 : P c) : ∀ q ∈ [a, b, c], P q := List.forall_mem_cons.mpr ⟨e, ex2 e2 e3⟩
def INV (σ μ : St) : Prop := GX σ ∧ GM 40 μ ∧ CPL σ μ
theorem inv_K {σ τ μ ν : St} (gx : GX σ) (gm : GM 40 μ) (cp : CPL σ μ) (h : K cF cA σ τ) (h2 : K mF mA μ ν) : INV τ ν := ⟨gx.kept h, gm.kept h2, cp.step [] [] h h2 (by decide) (by decide) ex0 ex0⟩
theorem st_q {fs rs fs' rs' : List Nat} {σ τ μ ν : St} (g : INV σ μ) (h : K fs rs σ τ) (h2 : K fs' rs' μ ν) (a1 : ∀ k ∈ cF, k ∈ fs) (a2 : ∀ k ∈ gA, k ∈ rs) (a3 : ∀ k ∈ mF, k ∈ fs') (a4 : ∀ k ∈ [6, 12], k ∈ rs') (d1 : ∀ q ∈ cpF, q ∈ ([] : List (Nat × Nat)) ∨ (q.1 ∈ fs ∧ q.2 ∈ fs')) (d2 : ∀ q ∈ cpR, q ∈ ([] : List (Nat × Nat)) ∨ (q.1 ∈ rs ∧ q.2 ∈ rs')) : INV τ ν := ⟨GX.kept2 g.1 (K.sub h a1 a2), g.2.1.kept2 (K.sub h2 a3 a4), g.2.2.step [] [] h h2 d1 d2 ex0 ex0⟩
theorem lad3 {A B P1 P2 P3 Q1 Q2 Q3 : Prop} (p : (¬ A ∧ P1) ∨ (A ∧ ¬ B ∧ P2) ∨ (A ∧ B ∧ P3)) (q : (¬ A ∧ Q1) ∨ (A ∧ ¬ B ∧ Q2) ∨ (A ∧ B ∧ Q3)) : (P1 ∧ Q1) ∨ (P2 ∧ Q2) ∨ (A ∧ B ∧ P3 ∧ Q3) := by
  rcases p with ⟨a, p⟩ | ⟨a, b, p⟩ | ⟨a, b, p⟩
  · rcases q with ⟨_, q⟩ | ⟨a', _, _⟩ | ⟨a', _, _⟩
    · exact Or.inl ⟨p, q⟩
    · exact absurd a' a
    · exact absurd a' a
  · rcases q with ⟨a', _⟩ | ⟨_, _, q⟩ | ⟨_, b', _⟩
    · exact absurd a a'
    · exact Or.inr (Or.inl ⟨p, q⟩)
    · exact absurd b' b
  · rcases q with ⟨a', _⟩ | ⟨_, b', _⟩ | ⟨_, _, q⟩
    · exact absurd a a'
    · exact absurd b b'
    · exact Or.inr (Or.inr ⟨a, b, p, q⟩)
theorem lad2 {A P1 P2 Q1 Q2 : Prop} (p : (¬ A ∧ P1) ∨ (A ∧ P2)) (q : (¬ A ∧ Q1) ∨ (A ∧ Q2)) : (P1 ∧ Q1) ∨ (A ∧ P2 ∧ Q2) := by
  rcases p with ⟨a, p⟩ | ⟨a, p⟩
  · rcases q with ⟨_, q⟩ | ⟨a', _⟩
    · exact Or.inl ⟨p, q⟩
    · exact absurd a' a
  · rcases q with ⟨a', _⟩ | ⟨_, q⟩
    · exact absurd a a'
    · exact Or.inr ⟨a, p, q⟩
theorem st_person {σ μ τ ν : St} {r r2 : Int32} (n : Nat) (hn4 : n ≤ 40) (g : INV σ μ) (p : ∃ υ : St, ((n = 40 ∧ r = -5 ∧ υ = σ) ∨ (n < 40 ∧ r = nI n ∧ υ = fF σ 0 (nI (n + 1)))) ∧ K cF cA υ τ) (p2 : (n = 40 ∧ r2 = -5 ∧ K mF mA μ ν) ∨ (n < 40 ∧ r2 = nI n ∧ ν.1 6 = nI (n + 1) ∧ K [2, 3, 4, 5, 7, 8, 9, 10, 11, 13] [1, 2, 3, 4, 5, 6, 7, 8, 9, 10, 11, 12, 13, 14, 15, 16, 17, 18, 19, 20, 21, 22, 23, 24, 25, 26, 27, 29] μ ν)) : INV τ ν ∧ r = r2 := by
  obtain ⟨gx, gm, cp⟩ := g
  obtain ⟨υ, p, hk⟩ := p
  rcases p with ⟨e, hr, hu⟩ | ⟨e, hr, hu⟩
  · rcases p2 with ⟨e2, hr2, hk2⟩ | ⟨e2, hr2, _⟩
    · rw [hu] at hk
      exact ⟨inv_K gx gm cp hk hk2, hr.trans hr2.symm⟩
    · omega
  · rcases p2 with ⟨e2, hr2, hk2⟩ | ⟨e2, hr2, v2, hk2⟩
    · omega
    · subst hu
      have v : τ.1 0 = nI (n + 1) := hk.1 0 (by decide)
      have k9 : K [1, 3, 7, 9, 10, 11, 12, 13, 14, 15] cA σ τ := (K.rf.F 0 _ (by decide)).tr (K.sub hk (by decide) (by decide))
      exact ⟨⟨gx_0 v (by omega) gx (K.sub k9 (by decide) (by decide)), gm_6 v2 (by omega) gm (K.sub hk2 (by decide) (by decide)), cp.step [(0, 6)] [] k9 hk2 (by decide) (by decide) (ex1 (v.trans v2.symm)) ex0⟩, hr.trans hr2.symm⟩
theorem st_aqueduct {σ μ τ ν : St} {r r2 : Int32} (x : Int32) (q : Nat) (h4 : q ≤ 4) (g : INV σ μ) (p : ∃ υ : St, ((¬ ((0 : Int32) ≤ x ∧ x ≤ 100000) ∧ r = -1 ∧ υ = σ) ∨ (((0 : Int32) ≤ x ∧ x ≤ 100000) ∧ ((q = 4 ∧ r = -5 ∧ υ = σ) ∨ (q < 4 ∧ r = nI q ∧ υ = fF (fR σ 33 (upd (σ.2.1 33) q x)) 10 (nI (q + 1)))))) ∧ K cF cA υ τ) (p2 : (¬ ((0 : Int32) ≤ x ∧ x ≤ 100000) ∧ r2 = -1 ∧ K mF mA μ ν) ∨ (((0 : Int32) ≤ x ∧ x ≤ 100000) ∧ ((q = 4 ∧ r2 = -5 ∧ K mF mA μ ν) ∨ (q < 4 ∧ r2 = nI q ∧ ν.1 3 = nI (q + 1) ∧ K [2, 4, 5, 6, 7, 8, 9, 10, 11, 13] [2, 3, 4, 5, 6, 7, 8, 9, 10, 11, 12, 13, 14, 15, 16, 17, 18, 19, 20, 21, 22, 23, 24, 25, 26, 27, 29] μ ν)))) : INV τ ν ∧ r = r2 := by
  obtain ⟨gx, gm, cp⟩ := g
  obtain ⟨υ, p, hk⟩ := p
  rcases lad2 p p2 with ⟨⟨hr, hu⟩, hr2, hk2⟩ | ⟨ga, p, p2⟩
  · rw [hu] at hk
    exact ⟨inv_K gx gm cp hk hk2, hr.trans hr2.symm⟩
  rcases p with ⟨e, hr, hu⟩ | ⟨e, hr, hu⟩
  · rcases p2 with ⟨e2, hr2, hk2⟩ | ⟨e2, hr2, _⟩
    · rw [hu] at hk
      exact ⟨inv_K gx gm cp hk hk2, hr.trans hr2.symm⟩
    · omega
  · rcases p2 with ⟨e2, hr2, hk2⟩ | ⟨e2, hr2, v2, hk2⟩
    · omega
    · subst hu
      have v : τ.1 10 = nI (q + 1) := hk.1 10 (by decide)
      have k9 : K [0, 1, 3, 7, 9, 11, 12, 13, 14, 15] [18, 19, 20, 21, 22, 29, 30, 31, 34, 35, 36, 38, 39, 40, 41, 42, 43, 44, 45, 46, 47, 48, 49, 50, 51, 52, 53, 54, 55, 56, 57, 58, 59] σ τ := ((K.rf.R 33 _ (by decide)).F 10 _ (by decide)).tr (K.sub hk (by decide) (by decide))
      exact ⟨⟨gx_10 v (by omega) gx (K.sub k9 (by decide) (by decide)), gm_3 v2 (by omega) gm (K.sub hk2 (by decide) (by decide)), cp.step [(10, 3)] [] k9 hk2 (by decide) (by decide) (ex1 (v.trans v2.symm)) ex0⟩, hr.trans hr2.symm⟩
theorem st_death {σ μ τ ν : St} {r r2 : Int32} (x y w : Int32) (q n : Nat) (hq : σ.1 0 = nI q) (hq4 : q ≤ 40) (hn : σ.1 9 = nI n) (hn6 : n ≤ 60) (g : INV σ μ) (p : ∃ υ : St, ((¬ (((0 : Int32) ≤ y ∧ y ≤ 200) ∧ ((0 : Int32) ≤ w ∧ w ≤ 200)) ∧ r = -1 ∧ υ = σ) ∨ ((((0 : Int32) ≤ y ∧ y ≤ 200) ∧ ((0 : Int32) ≤ w ∧ w ≤ 200)) ∧ ¬ ((0 : Int32) ≤ x ∧ x ≤ σ.1 0 - 1) ∧ r = -2 ∧ υ = σ) ∨ ((((0 : Int32) ≤ y ∧ y ≤ 200) ∧ ((0 : Int32) ≤ w ∧ w ≤ 200)) ∧ ((0 : Int32) ≤ x ∧ x ≤ σ.1 0 - 1) ∧ ((n = 60 ∧ r = -5 ∧ υ = σ) ∨ (n < 60 ∧ r = nI (n + 1) ∧ υ = fF (fR (fR (fR σ 29 (upd (σ.2.1 29) n x)) 30 (upd (σ.2.1 30) n y)) 31 (upd (σ.2.1 31) n w)) 9 (nI (n + 1)))))) ∧ K cF cA υ τ) (p2 : (¬ (((0 : Int32) ≤ y ∧ y ≤ 200) ∧ ((0 : Int32) ≤ w ∧ w ≤ 200)) ∧ r2 = -1 ∧ K mF mA μ ν) ∨ ((((0 : Int32) ≤ y ∧ y ≤ 200) ∧ ((0 : Int32) ≤ w ∧ w ≤ 200)) ∧ ¬ ((0 : Int32) ≤ x ∧ x ≤ nI q - 1) ∧ r2 = -2 ∧ K mF mA μ ν) ∨ ((((0 : Int32) ≤ y ∧ y ≤ 200) ∧ ((0 : Int32) ≤ w ∧ w ≤ 200)) ∧ ((0 : Int32) ≤ x ∧ x ≤ nI q - 1) ∧ ((n = 60 ∧ r2 = -5 ∧ K mF mA μ ν) ∨ (n < 60 ∧ r2 = nI (n + 1) ∧ ν.1 7 = nI (n + 1) ∧ ν.2.1 8 = upd (μ.2.1 8) n x ∧ ν.2.1 9 = upd (μ.2.1 9) n y ∧ ν.2.1 10 = upd (μ.2.1 10) n w ∧ K [2, 3, 4, 5, 6, 8, 9, 10, 11, 13] [1, 2, 3, 4, 5, 6, 7, 11, 12, 13, 14, 15, 16, 17, 18, 19, 20, 21, 22, 23, 24, 25, 26, 27, 29] μ ν)))) : INV τ ν ∧ r = r2 := by
  obtain ⟨gx, gm, cp⟩ := g
  obtain ⟨υ, p, hk⟩ := p
  rw [hq] at p
  rcases lad3 p p2 with ⟨⟨hr, hu⟩, hr2, hk2⟩ | ⟨⟨hr, hu⟩, hr2, hk2⟩ | ⟨ga, gb, p, p2⟩
  · rw [hu] at hk
    exact ⟨inv_K gx gm cp hk hk2, hr.trans hr2.symm⟩
  · rw [hu] at hk
    exact ⟨inv_K gx gm cp hk hk2, hr.trans hr2.symm⟩
  rcases p with ⟨e, hr, hu⟩ | ⟨e, hr, hu⟩
  · rcases p2 with ⟨e2, hr2, hk2⟩ | ⟨e2, hr2, _⟩
    · rw [hu] at hk
      exact ⟨inv_K gx gm cp hk hk2, hr.trans hr2.symm⟩
    · omega
  · rcases p2 with ⟨e2, hr2, hk2⟩ | ⟨e2, hr2, v2, w1, w2, w3, hk2⟩
    · omega
    · subst hu
      have v : τ.1 9 = nI (n + 1) := hk.1 9 (by decide)
      have u1 : τ.2.1 29 = upd (σ.2.1 29) n x := hk.2 29 (by decide)
      have u2 : τ.2.1 30 = upd (σ.2.1 30) n y := hk.2 30 (by decide)
      have u3 : τ.2.1 31 = upd (σ.2.1 31) n w := hk.2 31 (by decide)
      have c1 : σ.2.1 29 = μ.2.1 8 := cp.2 (29, 8) (by decide)
      have c2 : σ.2.1 30 = μ.2.1 9 := cp.2 (30, 9) (by decide)
      have c3 : σ.2.1 31 = μ.2.1 10 := cp.2 (31, 10) (by decide)
      have k9 : K [0, 1, 3, 7, 10, 11, 12, 13, 14, 15] [18, 19, 20, 21, 22, 33, 34, 35, 36, 38, 39, 40, 41, 42, 43, 44, 45, 46, 47, 48, 49, 50, 51, 52, 53, 54, 55, 56, 57, 58, 59] σ τ := ((((K.rf.R 29 _ (by decide)).R 30 _ (by decide)).R 31 _ (by decide)).F 9 _ (by decide)).tr (K.sub hk (by decide) (by decide))
      obtain ⟨j, _, hj, hxj⟩ := z_in (N := 40) gb.1 gb.2 hq4 (by decide)
      exact ⟨⟨gx_9 hn v e u1 (by rw [hxj]; exact vp_in_nI hj (by decide)) gx (K.sub k9 (by decide) (by decide)), gm_7 v2 (by omega) gm (K.sub hk2 (by decide) (by decide)), cp.step [(9, 7)] [(29, 8), (30, 9), (31, 10)] k9 hk2 (by decide) (by decide) (ex1 (v.trans v2.symm)) (ex3 (u1.trans (by rw [c1]; exact w1.symm)) (u2.trans (by rw [c2]; exact w2.symm)) (u3.trans (by rw [c3]; exact w3.symm)))⟩, hr.trans hr2.symm⟩
theorem st_spring {σ μ τ ν : St} {r r2 : Int32} (x y w : Int32) (q n : Nat) (hq : σ.1 10 = nI q) (hq4 : q ≤ 4) (hn : σ.1 11 = nI n) (hn6 : n ≤ 60) (g : INV σ μ) (p : ∃ υ : St, ((¬ (((0 : Int32) ≤ y ∧ y ≤ 200) ∧ ((0 : Int32) ≤ w ∧ w ≤ 100000)) ∧ r = -1 ∧ υ = σ) ∨ ((((0 : Int32) ≤ y ∧ y ≤ 200) ∧ ((0 : Int32) ≤ w ∧ w ≤ 100000)) ∧ ¬ ((0 : Int32) ≤ x ∧ x ≤ σ.1 10 - 1) ∧ r = -2 ∧ υ = σ) ∨ ((((0 : Int32) ≤ y ∧ y ≤ 200) ∧ ((0 : Int32) ≤ w ∧ w ≤ 100000)) ∧ ((0 : Int32) ≤ x ∧ x ≤ σ.1 10 - 1) ∧ (∃ t, t ≤ n ∧ (∀ i, i < t → ¬ (σ.2.1 34 i = x ∧ σ.2.1 35 i = y)) ∧ (t < n → (σ.2.1 34 t = x ∧ σ.2.1 35 t = y)) ∧ ((t = 60 ∧ r = -5 ∧ υ = σ) ∨ (t < 60 ∧ r = 0 ∧ υ = fF (fR (fR (fR σ 34 (upd (σ.2.1 34) t x)) 35 (upd (σ.2.1 35) t y)) 36 (upd (σ.2.1 36) t w)) 11 (if nI n < nI (t + 1) then nI (t + 1) else nI n)))))) ∧ K cF cA υ τ) (p2 : (¬ (((0 : Int32) ≤ y ∧ y ≤ 200) ∧ ((0 : Int32) ≤ w ∧ w ≤ 100000)) ∧ r2 = -1 ∧ K mF mA μ ν) ∨ ((((0 : Int32) ≤ y ∧ y ≤ 200) ∧ ((0 : Int32) ≤ w ∧ w ≤ 100000)) ∧ ¬ ((0 : Int32) ≤ x ∧ x ≤ nI q - 1) ∧ r2 = -2 ∧ K mF mA μ ν) ∨ ((((0 : Int32) ≤ y ∧ y ≤ 200) ∧ ((0 : Int32) ≤ w ∧ w ≤ 100000)) ∧ ((0 : Int32) ≤ x ∧ x ≤ nI q - 1) ∧ (∃ t, t ≤ n ∧ (∀ i, i < t → ¬ (μ.2.1 2 i = x ∧ μ.2.1 3 i = y)) ∧ (t < n → (μ.2.1 2 t = x ∧ μ.2.1 3 t = y)) ∧ ((t = 60 ∧ r2 = -5 ∧ K mF mA μ ν) ∨ (t < 60 ∧ r2 = 0 ∧ ν.1 4 = nI (if t = n then n + 1 else n) ∧ ν.2.1 2 = upd (μ.2.1 2) t x ∧ ν.2.1 3 = upd (μ.2.1 3) t y ∧ K [2, 3, 5, 6, 7, 8, 9, 10, 11, 13] [1, 5, 6, 7, 8, 9, 10, 11, 12, 13, 14, 15, 16, 17, 18, 19, 20, 21, 22, 23, 24, 25, 26, 27, 29] μ ν))))) : INV τ ν ∧ r = r2 := by
  obtain ⟨gx, gm, cp⟩ := g
  obtain ⟨υ, p, hk⟩ := p
  rw [hq] at p
  rcases lad3 p p2 with ⟨⟨hr, hu⟩, hr2, hk2⟩ | ⟨⟨hr, hu⟩, hr2, hk2⟩ | ⟨ga, gb, p, p2⟩
  · rw [hu] at hk
    exact ⟨inv_K gx gm cp hk hk2, hr.trans hr2.symm⟩
  · rw [hu] at hk
    exact ⟨inv_K gx gm cp hk hk2, hr.trans hr2.symm⟩
  have c1 : σ.2.1 34 = μ.2.1 2 := cp.2 (34, 2) (by decide)
  have c2 : σ.2.1 35 = μ.2.1 3 := cp.2 (35, 3) (by decide)
  obtain ⟨t, ht, f1, f2, p⟩ := p
  obtain ⟨t2, ht2, f3, f4, p2⟩ := p2
  rw [← c1, ← c2] at f3 f4
  have et : t = t2 := by
    rcases Nat.lt_trichotomy t t2 with h | h | h
    · exact absurd (f2 (by omega)) (f3 t h)
    · exact h
    · exact absurd (f4 (by omega)) (f1 t2 h)
  subst et
  rcases p with ⟨e, hr, hu⟩ | ⟨e, hr, hu⟩
  · rcases p2 with ⟨e2, hr2, hk2⟩ | ⟨e2, hr2, _⟩
    · rw [hu] at hk
      exact ⟨inv_K gx gm cp hk hk2, hr.trans hr2.symm⟩
    · omega
  · rcases p2 with ⟨e2, hr2, hk2⟩ | ⟨e2, hr2, v2, w1, w2, hk2⟩
    · omega
    · subst hu
      have v0 : τ.1 11 = (if nI n < nI (t + 1) then nI (t + 1) else nI n) := hk.1 11 (by decide)
      have v : τ.1 11 = nI (if t = n then n + 1 else n) := by
        rw [v0]
        by_cases h : t = n
        · rw [h, if_pos ((nI_ltI (by omega) (by omega)).mpr (Nat.lt_succ_self n)), if_pos rfl]
        · rw [if_neg (fun z => absurd ((nI_ltI (by omega) (by omega)).mp z) (by omega)), if_neg h]
      have u1 : τ.2.1 34 = upd (σ.2.1 34) t x := hk.2 34 (by decide)
      have u2 : τ.2.1 35 = upd (σ.2.1 35) t y := hk.2 35 (by decide)
      have k9 : K [0, 1, 3, 7, 9, 10, 12, 13, 14, 15] [18, 19, 20, 21, 22, 29, 30, 31, 33, 38, 39, 40, 41, 42, 43, 44, 45, 46, 47, 48, 49, 50, 51, 52, 53, 54, 55, 56, 57, 58, 59] σ τ := ((((K.rf.R 34 _ (by decide)).R 35 _ (by decide)).R 36 _ (by decide)).F 11 _ (by decide)).tr (K.sub hk (by decide) (by decide))
      obtain ⟨j, _, hj, hxj⟩ := z_in (N := 4) gb.1 gb.2 hq4 (by decide)
      have hx4 : vp_in x 4 := by rw [hxj]; exact vp_in_nI hj (by decide)
      have hk60 : (if t = n then n + 1 else n) ≤ 60 := by
        by_cases h : t = n
        · rw [if_pos h]; omega
        · rw [if_neg h]; omega
      obtain ⟨q8, n8, _, _, _, hn8, h5⟩ := id gx.2.2.2.1
      have e8 : n8 = n := (nI_eq (by omega) (by omega)).mp (hn8.symm.trans hn)
      subst e8
      have h34 : ∀ i, i < (if t = n8 then n8 + 1 else n8) → vp_in (τ.2.1 34 i) 4 := by
        intro i hi
        rw [u1]
        by_cases hit : i = t
        · rw [hit, upd_s]; exact hx4
        · rw [upd_n hit]
          refine h5 i ?_
          by_cases h : t = n8
          · rw [if_pos h] at hi; omega
          · rw [if_neg h] at hi; exact hi
      exact ⟨⟨gx_11 v hk60 h34 gx (K.sub k9 (by decide) (by decide)), gm_4 v2 hk60 gm (K.sub hk2 (by decide) (by decide)), cp.step [(11, 4)] [(34, 2), (35, 3)] k9 hk2 (by decide) (by decide) (ex1 (v.trans v2.symm)) (ex2 (u1.trans (by rw [c1]; exact w1.symm)) (u2.trans (by rw [c2]; exact w2.symm)))⟩, hr.trans hr2.symm⟩
theorem st_go {σ μ τ ν : St} {r r2 : Int32} (x : Int32) (g : INV σ μ) (p : ∃ υ : St, ((¬ (((1 : Int32) ≤ x ∧ x ≤ 50) ∧ σ.1 1 + x ≤ 200) ∧ r = -1 ∧ υ = σ) ∨ ((((1 : Int32) ≤ x ∧ x ≤ 50) ∧ σ.1 1 + x ≤ 200) ∧ r = σ.1 1 + x ∧ υ = fF σ 1 (σ.1 1 + x))) ∧ K cF cA υ τ) (p2 : (¬ (((1 : Int32) ≤ x ∧ x ≤ 50) ∧ μ.1 2 + x ≤ 200) ∧ r2 = -1 ∧ K mF mA μ ν) ∨ ((((1 : Int32) ≤ x ∧ x ≤ 50) ∧ μ.1 2 + x ≤ 200) ∧ r2 = μ.1 2 + x ∧ ν.1 2 = μ.1 2 + x ∧ K [3, 4, 5, 6, 7, 8, 9, 10, 11, 13] [1, 2, 3, 4, 5, 6, 7, 8, 9, 10, 11, 12, 13, 14, 15, 16, 17, 18, 19, 20, 21, 22, 23, 24, 25, 26, 27, 29] μ ν)) : INV τ ν ∧ r = r2 := by
  obtain ⟨gx, gm, cp⟩ := g
  obtain ⟨υ, p, hk⟩ := p
  have c1 : σ.1 1 = μ.1 2 := cp.1 (1, 2) (by decide)
  rw [← c1] at p2
  rcases lad2 p p2 with ⟨⟨hr, hu⟩, hr2, hk2⟩ | ⟨⟨⟨gl, gh⟩, gs⟩, ⟨hr, hu⟩, hr2, v2, hk2⟩
  · rw [hu] at hk
    exact ⟨inv_K gx gm cp hk hk2, hr.trans hr2.symm⟩
  · subst hu
    have v : τ.1 1 = σ.1 1 + x := hk.1 1 (by decide)
    have k9 : K [0, 3, 7, 9, 10, 11, 12, 13, 14, 15] cA σ τ := (K.rf.F 1 _ (by decide)).tr (K.sub hk (by decide) (by decide))
    obtain ⟨n, hn2, hn⟩ := id gx.2.2.2.2.2.2.1.2.2.1
    have e9 : ∃ k, k ≤ 200 ∧ σ.1 1 + x = nI k := by
      rw [z_le] at gl gh
      have h1 : (1 : Int32).toInt = 1 := by decide
      have h50 : (50 : Int32).toInt = 50 := by decide
      have h2 : ¬ x < 0 := by
        rw [z_lt]
        have h0 : (0 : Int32).toInt = 0 := by decide
        omega
      obtain ⟨j, hj, rfl⟩ := nI_of h2
      rw [nI_toInt hj] at gl gh
      have hj5 : j ≤ 50 := by omega
      rw [hn, nI_add] at gs ⊢
      refine ⟨n + j, ?_, rfl⟩
      exact (nI_leI (a := n + j) (b := 200) (by omega) (by decide)).mp gs
    obtain ⟨k, hk200, ek⟩ := e9
    exact ⟨⟨gx_1 (v.trans ek) hk200 gx (K.sub k9 (by decide) (by decide)), gm_2 (v2.trans ek) hk200 gm (K.sub hk2 (by decide) (by decide)), cp.step [(1, 2)] [] k9 hk2 (by decide) (by decide) (ex1 (v.trans v2.symm)) ex0⟩, hr.trans hr2.symm⟩
theorem st_feed {σ μ τ ν : St} {r r2 : Int32} (n : Nat) (g : INV σ μ) (p : (400 < n + 20 ∧ r = -1 ∧ τ = σ) ∨ (n + 20 ≤ 400 ∧ r = nI (n + 20) ∧ τ.1 3 = nI (n + 20) ∧ K [0, 1, 7, 9, 10, 11, 12, 13, 14, 15] (23 :: [19, 20, 21, 22, 29, 30, 31, 33, 34, 35, 36, 38, 39, 40, 41, 42, 43, 44, 45, 46, 47, 48, 49, 50, 51, 52, 53, 54, 55, 56, 57, 58, 59]) σ τ)) (p2 : (400 < n + 20 ∧ r2 = -1 ∧ K mF mA μ ν) ∨ (n + 20 ≤ 400 ∧ r2 = nI (n + 20) ∧ ν.1 13 = nI (n + 20) ∧ K [2, 3, 4, 5, 6, 7, 8, 9, 10, 11] [1, 2, 3, 4, 5, 6, 7, 8, 9, 10, 11, 12, 13, 14, 15, 16, 17, 18, 19, 20, 21, 22, 23, 24, 25, 26, 27] μ ν)) : INV τ ν ∧ r = r2 := by
  obtain ⟨gx, gm, cp⟩ := g
  rcases p with ⟨e, hr, hu⟩ | ⟨e, hr, v, hk⟩
  · rcases p2 with ⟨e2, hr2, hk2⟩ | ⟨e2, hr2, _⟩
    · rw [hu]
      exact ⟨inv_K gx gm cp K.rf hk2, hr.trans hr2.symm⟩
    · omega
  · rcases p2 with ⟨e2, hr2, hk2⟩ | ⟨e2, hr2, v2, hk2⟩
    · omega
    · exact ⟨⟨gx_3 v e gx (K.sub hk (by decide) (by decide)), gm_13 v2 e gm (K.sub hk2 (by decide) (by decide)), cp.step [(3, 13)] [] hk hk2 (by decide) (by decide) (ex1 (v.trans v2.symm)) ex0⟩, hr.trans hr2.symm⟩
theorem st_end {σ μ τ ν : St} {r r2 : Int32} (x : Int32) (n : Nat) (hn4 : n ≤ 400) (g : INV σ μ) (p : (¬ ((0 : Int32) ≤ x ∧ x ≤ nI n) ∧ r = -1 ∧ τ = σ) ∨ (((0 : Int32) ≤ x ∧ x ≤ nI n) ∧ r = x ∧ τ = fF σ 3 x)) (p2 : (¬ ((0 : Int32) ≤ x ∧ x ≤ nI n) ∧ r2 = -1 ∧ K mF mA μ ν) ∨ (((0 : Int32) ≤ x ∧ x ≤ nI n) ∧ r2 = x ∧ ν.1 13 = x ∧ K [2, 3, 4, 5, 6, 7, 8, 9, 10, 11] [1, 2, 3, 4, 5, 6, 7, 8, 9, 10, 11, 12, 13, 14, 15, 16, 17, 18, 19, 20, 21, 22, 23, 24, 25, 26, 27] μ ν)) : INV τ ν ∧ r = r2 := by
  obtain ⟨gx, gm, cp⟩ := g
  rcases lad2 p p2 with ⟨⟨hr, hu⟩, hr2, hk2⟩ | ⟨⟨gl, gh⟩, ⟨hr, hu⟩, hr2, v2, hk2⟩
  · rw [hu]
    exact ⟨inv_K gx gm cp K.rf hk2, hr.trans hr2.symm⟩
  · subst hu
    have k9 : K [0, 1, 7, 9, 10, 11, 12, 13, 14, 15] cA σ (fF σ 3 x) := K.rf.F 3 _ (by decide)
    obtain ⟨j, hj, ej⟩ := nI_of (Int32.not_lt.mpr gl)
    have v : (fF σ 3 x).1 3 = x := rfl
    rw [ej] at gh
    have hjn : j ≤ 400 := Nat.le_trans ((nI_leI hj (by omega)).mp gh) hn4
    exact ⟨⟨gx_3 (v.trans ej) hjn gx (K.sub k9 (by decide) (by decide)), gm_13 (v2.trans ej) hjn gm (K.sub hk2 (by decide) (by decide)), cp.step [(3, 13)] [] k9 hk2 (by decide) (by decide) (ex1 (v.trans v2.symm)) ex0⟩, hr.trans hr2.symm⟩
theorem st_castle {σ μ τ ν : St} {r r2 : Int32} (x y w : Int32) (q n : Nat) (hq : σ.1 10 = nI q) (hq4 : q ≤ 4) (hn : σ.1 12 = nI n) (hn2 : n ≤ 12) (g : INV σ μ) (p : (¬ (((1 : Int32) ≤ y ∧ y ≤ 100000) ∧ ((0 : Int32) ≤ w ∧ w ≤ 1000)) ∧ r = -1 ∧ K cF cA σ τ) ∨ ((((1 : Int32) ≤ y ∧ y ≤ 100000) ∧ ((0 : Int32) ≤ w ∧ w ≤ 1000)) ∧ ¬ ((x < 100 ∧ ((0 : Int32) ≤ x ∧ x ≤ σ.1 10 - 1)) ∨ ((100 : Int32) ≤ x ∧ ((0 : Int32) ≤ x - 100 ∧ x - 100 ≤ σ.1 12 - 1))) ∧ r = -2 ∧ K cF cA σ τ) ∨ ((((1 : Int32) ≤ y ∧ y ≤ 100000) ∧ ((0 : Int32) ≤ w ∧ w ≤ 1000)) ∧ ((x < 100 ∧ ((0 : Int32) ≤ x ∧ x ≤ σ.1 10 - 1)) ∨ ((100 : Int32) ≤ x ∧ ((0 : Int32) ≤ x - 100 ∧ x - 100 ≤ σ.1 12 - 1))) ∧ ((n = 12 ∧ r = -5 ∧ K cF cA σ τ) ∨ (n < 12 ∧ r = nI n ∧ τ.1 12 = nI (n + 1) ∧ K [0, 1, 3, 7, 9, 10, 11, 13, 14, 15] [18, 19, 20, 21, 22, 29, 30, 31, 33, 34, 35, 36, 41, 42, 43, 44, 45, 46, 47, 48, 49, 50, 51, 54, 55, 56, 57, 58, 59] σ τ ∧ GX τ)))) (p2 : (¬ (((1 : Int32) ≤ y ∧ y ≤ 100000) ∧ ((0 : Int32) ≤ w ∧ w ≤ 1000)) ∧ r2 = -1 ∧ K mF mA μ ν) ∨ ((((1 : Int32) ≤ y ∧ y ≤ 100000) ∧ ((0 : Int32) ≤ w ∧ w ≤ 1000)) ∧ ¬ (((0 : Int32) ≤ x ∧ x ≤ nI q - 1) ∨ ((100 : Int32) ≤ x ∧ ((0 : Int32) ≤ x - 100 ∧ x - 100 ≤ nI n - 1))) ∧ r2 = -2 ∧ K mF mA μ ν) ∨ ((((1 : Int32) ≤ y ∧ y ≤ 100000) ∧ ((0 : Int32) ≤ w ∧ w ≤ 1000)) ∧ (((0 : Int32) ≤ x ∧ x ≤ nI q - 1) ∨ ((100 : Int32) ≤ x ∧ ((0 : Int32) ≤ x - 100 ∧ x - 100 ≤ nI n - 1))) ∧ ((n = 12 ∧ r2 = -5 ∧ K mF mA μ ν) ∨ (n < 12 ∧ r2 = nI n ∧ ν.1 5 = nI (n + 1) ∧ ν.2.1 6 = upd (μ.2.1 6) n y ∧ WT y ∧ K [2, 3, 4, 6, 7, 8, 9, 10, 11, 13] [1, 2, 3, 4, 8, 9, 10, 11, 12, 13, 14, 15, 16, 17, 18, 19, 20, 21, 22, 23, 24, 25, 26, 27, 29] μ ν)))) : INV τ ν ∧ r = r2 := by
  obtain ⟨gx, gm, cp⟩ := g
  rw [hq, hn] at p
  have eB : ((0 : Int32) ≤ x ∧ x ≤ nI q - 1) = (x < 100 ∧ ((0 : Int32) ≤ x ∧ x ≤ nI q - 1)) := propext ⟨fun h => ⟨by
    obtain ⟨j, _, hj, hxj⟩ := z_in (N := 4) h.1 h.2 hq4 (by decide)
    rw [hxj]
    exact (nI_ltI (a := j) (b := 100) (by omega) (by decide)).mpr (by omega), h⟩, And.right⟩
  rw [eB] at p2
  rcases lad3 p p2 with ⟨⟨hr, hk⟩, hr2, hk2⟩ | ⟨⟨hr, hk⟩, hr2, hk2⟩ | ⟨ga, gb, p, p2⟩
  · exact ⟨inv_K gx gm cp hk hk2, hr.trans hr2.symm⟩
  · exact ⟨inv_K gx gm cp hk hk2, hr.trans hr2.symm⟩
  rcases p with ⟨e, hr, hk⟩ | ⟨e, hr, v, hk, gx2⟩
  · rcases p2 with ⟨e2, hr2, hk2⟩ | ⟨e2, hr2, _⟩
    · exact ⟨inv_K gx gm cp hk hk2, hr.trans hr2.symm⟩
    · omega
  · rcases p2 with ⟨e2, hr2, hk2⟩ | ⟨e2, hr2, v2, w1, hy, hk2⟩
    · omega
    · have c1 : σ.1 12 = μ.1 5 := cp.1 (12, 5) (by decide)
      exact ⟨⟨gx2, gm_5 (c1.symm.trans hn) v2 e w1 hy gm (K.sub hk2 (by decide) (by decide)), cp.step [(12, 5)] [] hk hk2 (by decide) (by decide) (ex1 (v.trans v2.symm)) ex0⟩, hr.trans hr2.symm⟩
theorem st_tap {σ μ τ ν : St} {r r2 : Int32} (x y w v : Int32) (q n : Nat) (hq : σ.1 12 = nI q) (g : INV σ μ) (p : (¬ (((1 : Int32) ≤ y ∧ y ≤ 10000) ∧ (((0 : Int32) ≤ w ∧ w ≤ 200) ∧ ((0 : Int32) ≤ v ∧ v ≤ 200) ∧ w ≤ v)) ∧ r = -1 ∧ K cF cA σ τ) ∨ ((((1 : Int32) ≤ y ∧ y ≤ 10000) ∧ (((0 : Int32) ≤ w ∧ w ≤ 200) ∧ ((0 : Int32) ≤ v ∧ v ≤ 200) ∧ w ≤ v)) ∧ ¬ ((0 : Int32) ≤ x ∧ x ≤ σ.1 12 - 1) ∧ r = -2 ∧ K cF cA σ τ) ∨ ((((1 : Int32) ≤ y ∧ y ≤ 10000) ∧ (((0 : Int32) ≤ w ∧ w ≤ 200) ∧ ((0 : Int32) ≤ v ∧ v ≤ 200) ∧ w ≤ v)) ∧ ((0 : Int32) ≤ x ∧ x ≤ σ.1 12 - 1) ∧ ((n = 60 ∧ r = -5 ∧ K cF cA σ τ) ∨ (n < 60 ∧ r = nI (n + 1) ∧ τ.1 14 = nI (n + 1) ∧ K [0, 1, 3, 7, 9, 10, 11, 12, 13, 15] [18, 19, 20, 21, 22, 29, 30, 31, 33, 34, 35, 36, 38, 39, 40, 41, 42, 43, 44, 45, 49, 50, 51, 52, 53, 54, 55, 58, 59] σ τ ∧ GX τ)))) (p2 : (¬ (((1 : Int32) ≤ y ∧ y ≤ 10000) ∧ (((0 : Int32) ≤ w ∧ w ≤ 200) ∧ ((0 : Int32) ≤ v ∧ v ≤ 200) ∧ w ≤ v)) ∧ r2 = -1 ∧ K mF mA μ ν) ∨ ((((1 : Int32) ≤ y ∧ y ≤ 10000) ∧ (((0 : Int32) ≤ w ∧ w ≤ 200) ∧ ((0 : Int32) ≤ v ∧ v ≤ 200) ∧ w ≤ v)) ∧ ¬ ((0 : Int32) ≤ x ∧ x ≤ nI q - 1) ∧ r2 = -2 ∧ K mF mA μ ν) ∨ ((((1 : Int32) ≤ y ∧ y ≤ 10000) ∧ (((0 : Int32) ≤ w ∧ w ≤ 200) ∧ ((0 : Int32) ≤ v ∧ v ≤ 200) ∧ w ≤ v)) ∧ ((0 : Int32) ≤ x ∧ x ≤ nI q - 1) ∧ ((n = 60 ∧ r2 = -5 ∧ K mF mA μ ν) ∨ (n < 60 ∧ r2 = nI (n + 1) ∧ ν.1 9 = nI (n + 1) ∧ K [2, 3, 4, 5, 6, 7, 8, 10, 11, 13] [1, 2, 3, 4, 5, 6, 7, 8, 9, 10, 11, 12, 13, 14, 15, 16, 21, 22, 23, 24, 25, 26, 27, 29] μ ν)))) : INV τ ν ∧ r = r2 := by
  obtain ⟨gx, gm, cp⟩ := g
  rw [hq] at p
  rcases lad3 p p2 with ⟨⟨hr, hk⟩, hr2, hk2⟩ | ⟨⟨hr, hk⟩, hr2, hk2⟩ | ⟨ga, gb, p, p2⟩
  · exact ⟨inv_K gx gm cp hk hk2, hr.trans hr2.symm⟩
  · exact ⟨inv_K gx gm cp hk hk2, hr.trans hr2.symm⟩
  rcases p with ⟨e, hr, hk⟩ | ⟨e, hr, v1, hk, gx2⟩
  · rcases p2 with ⟨e2, hr2, hk2⟩ | ⟨e2, hr2, _⟩
    · exact ⟨inv_K gx gm cp hk hk2, hr.trans hr2.symm⟩
    · omega
  · rcases p2 with ⟨e2, hr2, hk2⟩ | ⟨e2, hr2, v2, hk2⟩
    · omega
    · exact ⟨⟨gx2, gm_9 v2 (by omega) gm (K.sub hk2 (by decide) (by decide)), cp.step [(14, 9)] [] hk hk2 (by decide) (by decide) (ex1 (v1.trans v2.symm)) ex0⟩, hr.trans hr2.symm⟩
theorem st_repair {σ μ τ ν : St} {r r2 : Int32} (x y w : Int32) (q n : Nat) (hq : σ.1 12 = nI q) (g : INV σ μ) (p : (¬ (((0 : Int32) ≤ y ∧ y ≤ 200) ∧ ((0 : Int32) ≤ w ∧ w ≤ 200) ∧ y ≤ w) ∧ r = -1 ∧ K cF cA σ τ) ∨ ((((0 : Int32) ≤ y ∧ y ≤ 200) ∧ ((0 : Int32) ≤ w ∧ w ≤ 200) ∧ y ≤ w) ∧ ¬ ((0 : Int32) ≤ x ∧ x ≤ σ.1 12 - 1) ∧ r = -2 ∧ K cF cA σ τ) ∨ ((((0 : Int32) ≤ y ∧ y ≤ 200) ∧ ((0 : Int32) ≤ w ∧ w ≤ 200) ∧ y ≤ w) ∧ ((0 : Int32) ≤ x ∧ x ≤ σ.1 12 - 1) ∧ ((n = 40 ∧ r = -5 ∧ K cF cA σ τ) ∨ (n < 40 ∧ r = nI (n + 1) ∧ τ.1 15 = nI (n + 1) ∧ K [0, 1, 3, 7, 9, 10, 11, 12, 13, 14] [18, 19, 20, 21, 22, 29, 30, 31, 33, 34, 35, 36, 38, 39, 40, 41, 42, 43, 44, 45, 46, 47, 48, 52, 53, 54, 55, 56, 57] σ τ ∧ GX τ)))) (p2 : (¬ (((0 : Int32) ≤ y ∧ y ≤ 200) ∧ ((0 : Int32) ≤ w ∧ w ≤ 200) ∧ y ≤ w) ∧ r2 = -1 ∧ K mF mA μ ν) ∨ ((((0 : Int32) ≤ y ∧ y ≤ 200) ∧ ((0 : Int32) ≤ w ∧ w ≤ 200) ∧ y ≤ w) ∧ ¬ ((0 : Int32) ≤ x ∧ x ≤ nI q - 1) ∧ r2 = -2 ∧ K mF mA μ ν) ∨ ((((0 : Int32) ≤ y ∧ y ≤ 200) ∧ ((0 : Int32) ≤ w ∧ w ≤ 200) ∧ y ≤ w) ∧ ((0 : Int32) ≤ x ∧ x ≤ nI q - 1) ∧ ((n = 40 ∧ r2 = -5 ∧ K mF mA μ ν) ∨ (n < 40 ∧ r2 = nI (n + 1) ∧ ν.1 10 = nI (n + 1) ∧ K [2, 3, 4, 5, 6, 7, 8, 9, 11, 13] [1, 2, 3, 4, 5, 6, 7, 8, 9, 10, 11, 12, 13, 14, 15, 16, 17, 18, 19, 20, 24, 25, 26, 27, 29] μ ν)))) : INV τ ν ∧ r = r2 := by
  obtain ⟨gx, gm, cp⟩ := g
  rw [hq] at p
  rcases lad3 p p2 with ⟨⟨hr, hk⟩, hr2, hk2⟩ | ⟨⟨hr, hk⟩, hr2, hk2⟩ | ⟨ga, gb, p, p2⟩
  · exact ⟨inv_K gx gm cp hk hk2, hr.trans hr2.symm⟩
  · exact ⟨inv_K gx gm cp hk hk2, hr.trans hr2.symm⟩
  rcases p with ⟨e, hr, hk⟩ | ⟨e, hr, v1, hk, gx2⟩
  · rcases p2 with ⟨e2, hr2, hk2⟩ | ⟨e2, hr2, _⟩
    · exact ⟨inv_K gx gm cp hk hk2, hr.trans hr2.symm⟩
    · omega
  · rcases p2 with ⟨e2, hr2, hk2⟩ | ⟨e2, hr2, v2, hk2⟩
    · omega
    · exact ⟨⟨gx2, gm_10 v2 (by omega) gm (K.sub hk2 (by decide) (by decide)), cp.step [(15, 10)] [] hk hk2 (by decide) (by decide) (ex1 (v1.trans v2.symm)) ex0⟩, hr.trans hr2.symm⟩
theorem st_nozzle {σ μ τ ν : St} (g : INV σ μ) (p : K [0, 1, 3, 7, 9, 10, 11, 12, 14, 15] [18, 19, 20, 21, 22, 29, 30, 31, 33, 34, 35, 36, 38, 39, 40, 46, 47, 48, 49, 50, 51, 52, 53, 56, 57, 58, 59] σ τ ∧ GX τ) (p2 : K [2, 3, 4, 5, 6, 7, 9, 10, 11, 13] [1, 2, 3, 4, 5, 6, 7, 8, 9, 10, 17, 18, 19, 20, 21, 22, 23, 24, 25, 26, 27, 29] μ ν ∧ GM 40 ν) : INV τ ν := ⟨p.2, p2.2, g.2.2.step [] [] p.1 p2.1 (by decide) (by decide) ex0 ex0⟩
theorem st_laws {σ μ τ ν : St} (g : INV σ μ) (p : K [0, 1, 9, 10, 11, 12, 13, 14, 15] [29, 30, 31, 33, 34, 35, 36, 38, 39, 40, 41, 42, 43, 44, 45, 46, 47, 48, 49, 50, 51, 52, 53, 54, 55, 56, 57, 58, 59] σ τ ∧ GX τ ∧ τ.1 3 = 0) (p2 : K [2, 3, 4, 5, 6, 7, 8, 9, 10] [1, 2, 3, 4, 5, 6, 7, 8, 9, 10, 11, 12, 13, 14, 15, 16, 17, 18, 19, 20, 21, 22, 23, 29] μ ν ∧ GM 40 ν ∧ ν.1 13 = 0) : INV τ ν := ⟨p.2.1, p2.2.1, g.2.2.step [(3, 13)] [] p.1 p2.1 (by decide) (by decide) (ex1 (p.2.2.trans p2.2.2.symm)) ex0⟩
theorem st_shut {σ μ τ ν : St} (g : INV σ μ) (p : K cF [18, 19, 20, 21, 22, 29, 30, 31, 33, 34, 35, 36, 38, 39, 40, 41, 42, 43, 44, 46, 47, 48, 49, 50, 51, 52, 53, 54, 55, 56, 57, 58, 59] σ τ) (p2 : K [2, 3, 4, 5, 6, 7, 8, 9, 10, 11, 13] [1, 2, 3, 4, 5, 6, 7, 8, 9, 10, 11, 12, 13, 14, 15, 17, 18, 19, 20, 21, 22, 23, 24, 25, 26, 27, 29] μ ν) : INV τ ν := st_q g p p2 (by decide) (by decide) (by decide) (by decide) (by decide) (by decide)
theorem st_best {σ μ τ ν : St} (g : INV σ μ) (p : K cF cA σ τ) (p2 : K [2, 3, 4, 5, 6, 7, 8, 9, 10, 11, 13] [1, 2, 3, 4, 5, 6, 7, 8, 9, 10, 11, 12, 13, 14, 15, 16, 17, 18, 19, 20, 24, 25, 26, 27, 29] μ ν) : INV τ ν := st_q g p p2 (by decide) (by decide) (by decide) (by decide) (by decide) (by decide)
/-! ===== at the start ===== -/
theorem inv0 : INV σX0 σM0 := by
  have z9 : ∀ (i : Nat) (P : Prop), i < 0 → P := fun i P h => absurd h (Nat.not_lt_zero i)
  have gr : ∀ w b : Nat, GRP (fun _ => 0) (fun _ => 0) w b := fun w b c _ => ⟨0, Nat.zero_le _, rfl, fun i h => z9 i _ h⟩
  refine ⟨⟨⟨0, by decide, rfl⟩, ⟨0, by decide, rfl, fun i h => z9 i _ h⟩, ⟨0, by decide, rfl, fun i h => z9 i _ h⟩, ⟨0, 0, by decide, rfl, by decide, rfl, fun i h => z9 i _ h⟩, ⟨0, by decide, rfl, fun i h => z9 i _ h⟩, ⟨0, by decide, rfl, fun i h => z9 i _ h⟩, ⟨⟨0, by decide, rfl⟩, ⟨0, by decide, rfl⟩, ⟨0, by decide, rfl⟩, ⟨0, by decide, rfl⟩⟩, gr _ _, gr _ _, gr _ _, gr _ _⟩, ⟨⟨0, by decide, rfl⟩, ⟨0, by decide, rfl⟩, ⟨0, by decide, rfl, fun i h => z9 i _ h⟩, ⟨0, by decide, rfl⟩, ⟨0, by decide, rfl⟩, ⟨0, by decide, rfl, fun i h => z9 i _ h⟩, ⟨0, by decide, rfl⟩, ⟨0, by decide, rfl⟩, ⟨0, by decide, rfl⟩, ⟨0, by decide, rfl⟩, ⟨0, by decide, rfl⟩⟩, ?_, ?_⟩
  · decide
  · intro q _
    rfl
