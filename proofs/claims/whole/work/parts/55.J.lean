set_option maxHeartbeats 4000000 in
theorem J_begin {σ : Sg} {μ : Mg} {p0 z : Int} {u : Sg × (Nat → Int64)} {v : (Int × Nat × Nat × Nat × (Nat → Int))} (hJ : J σ μ) (hR : R_begin σ p0 z u) (hM : (fun u => ((2 ≤ p0 ∧ p0 ≤ 16) ∧ u = (0, p0.toNat, 0, 0, zF μ.2.1 16 0)) ∨ ((p0 < 2 ∨ 16 < p0) ∧ u = (1, μ.1.2.1, μ.1.2.2.2.1, μ.1.2.2.2.2.2.2, μ.2.1))) v) : z = v.1 ∧ J u.1 (((v.1, v.2.1, μ.1.2.2.1, v.2.2.1, μ.1.2.2.2.2.1, μ.1.2.2.2.2.2.1, v.2.2.2.1), (v.2.2.2.2, μ.2.2.1, μ.2.2.2.1, μ.2.2.2.2.1, μ.2.2.2.2.2.1, μ.2.2.2.2.2.2.1, μ.2.2.2.2.2.2.2.1, μ.2.2.2.2.2.2.2.2.1, μ.2.2.2.2.2.2.2.2.2.1, μ.2.2.2.2.2.2.2.2.2.2)) : Mg) := by
  obtain ⟨⟨n, w, rc, sc⟩, ⟨q, X, la, sm⟩, C, ⟨nm, wt, PL, DI, T⟩⟩ := σ
  obtain ⟨⟨cd, n', w', rc', sc', mo, fo⟩, ⟨q', X', la', sm', r, G, P, PL', DI', T'⟩⟩ := μ
  have hJ0 := hJ
  obtain ⟨⟨⟨⟨o1, o1b⟩, o2, o3, o4⟩, ⟨v1, v2, v3, v4⟩, og, ol, ow⟩, ⟨e1, e2, e3, e4⟩, ⟨a1, a2, a3, a4⟩, hl, hg⟩ := hJ
  dsimp only at o1 o1b o2 o3 o4 v1 v2 v3 v4 og ol ow e1 e2 e3 e4 a1 a2 a3 a4 hg
  subst e1; subst e2; subst e3; subst e4
  unfold R_begin at hR
  try dsimp only at hR
  try dsimp only at hM
  rcases hR with ⟨hz, c1, hu⟩ | ⟨hz, c1, hs⟩
  · rcases hM with ⟨m1, mv⟩ | ⟨m1, mv⟩
    · obtain ⟨u1, u2⟩ := u
      try dsimp only at hu
      subst hu; subst mv
      refine ⟨hz, ⟨⟨⟨?_, ?_⟩, o2, Nat.zero_le _, o4⟩, ⟨vals_F v1 16, v2, v3, v4⟩, og, ⟨Nat.zero_le _, ol.2.1, fun k h => absurd h (Nat.not_lt_zero _)⟩, ⟨Nat.le_refl _, (show (1 : Nat) ≤ 12 by omega)⟩⟩, ⟨rfl, rfl, rfl, rfl⟩, ⟨agr_F a1 16 0, a2, a3, a4⟩, ⟨rfl, fun k h => absurd h (Nat.not_lt_zero _), fun k h => absurd h (Nat.not_lt_zero _), hl.2.2.2⟩, hg⟩
      · show 2 ≤ p0.toNat; omega
      · show p0.toNat ≤ 16; omega
    · exfalso
      omega
  · rcases hM with ⟨m1, mv⟩ | ⟨m1, mv⟩
    · exfalso
      omega
    · subst mv
      exact ⟨hz, J_s (J_m hJ0 1 r G P hg.1) hs⟩
set_option maxHeartbeats 4000000 in
theorem J_ask {σ : Sg} {μ : Mg} {p0 p1 z zb : Int} {u : Sg × (Nat → Int64)} {v : (Int × (Nat → Int))} (hJ : J σ μ) (hR : R_ask σ p0 p1 z u) (hM : (fun z u => ((0 ≤ p0 ∧ p0 < (μ.1.2.1 : Int)) ∧ (-1000 ≤ p1 ∧ p1 ≤ 1000) ∧ u = (0, zU μ.2.1 p0.toNat p1) ∧ z = μ.2.1 p0.toNat) ∨ ((p0 < 0 ∨ (μ.1.2.1 : Int) ≤ p0) ∧ u = (1, μ.2.1) ∧ z = 0) ∨ ((0 ≤ p0 ∧ p0 < (μ.1.2.1 : Int)) ∧ (p1 < -1000 ∨ 1000 < p1) ∧ u = (2, μ.2.1) ∧ z = 0)) zb v) : z = v.1 ∧ (z = 0 → u.2 0 = (iI zb).toInt64) ∧ J u.1 (((v.1, μ.1.2.1, μ.1.2.2.1, μ.1.2.2.2.1, μ.1.2.2.2.2.1, μ.1.2.2.2.2.2.1, μ.1.2.2.2.2.2.2), (v.2, μ.2.2.1, μ.2.2.2.1, μ.2.2.2.2.1, μ.2.2.2.2.2.1, μ.2.2.2.2.2.2.1, μ.2.2.2.2.2.2.2.1, μ.2.2.2.2.2.2.2.2.1, μ.2.2.2.2.2.2.2.2.2.1, μ.2.2.2.2.2.2.2.2.2.2)) : Mg) := by
  obtain ⟨⟨n, w, rc, sc⟩, ⟨q, X, la, sm⟩, C, ⟨nm, wt, PL, DI, T⟩⟩ := σ
  obtain ⟨⟨cd, n', w', rc', sc', mo, fo⟩, ⟨q', X', la', sm', r, G, P, PL', DI', T'⟩⟩ := μ
  have hJ0 := hJ
  obtain ⟨⟨⟨⟨o1, o1b⟩, o2, o3, o4⟩, ⟨v1, v2, v3, v4⟩, og, ol, ow⟩, ⟨e1, e2, e3, e4⟩, ⟨a1, a2, a3, a4⟩, hl, hg⟩ := hJ
  dsimp only at o1 o1b o2 o3 o4 v1 v2 v3 v4 og ol ow e1 e2 e3 e4 a1 a2 a3 a4 hg
  subst e1; subst e2; subst e3; subst e4
  unfold R_ask at hR
  try dsimp only at hR
  try dsimp only at hM
  rcases hR with ⟨hz, c1, c2, hu, hv⟩ | ⟨hz, c1, hs⟩ | ⟨hz, c1, c2, hs⟩
  · rcases hM with ⟨m1, m2, mv, mz⟩ | ⟨m1, mv, mz⟩ | ⟨m1, m2, mv, mz⟩
    · obtain ⟨u1, u2⟩ := u
      try dsimp only at hu; try dsimp only at hv
      subst hu; subst mv
      refine ⟨hz, fun _ => ?_, ⟨⟨⟨o1, o1b⟩, o2, o3, o4⟩, ⟨vals_u v1 c2, v2, v3, v4⟩, og, ol, ow⟩, ⟨rfl, rfl, rfl, rfl⟩, ⟨agr_u a1 _ _, a2, a3, a4⟩, hl, hg⟩
      show u2 0 = _
      rw [hv, mz, a1 _ (by omega)]
    · exfalso
      try dsimp only at *
      omega
    · exfalso
      try dsimp only at *
      omega
  · rcases hM with ⟨m1, m2, mv, mz⟩ | ⟨m1, mv, mz⟩ | ⟨m1, m2, mv, mz⟩
    · exfalso
      try dsimp only at *
      omega
    · subst mv
      exact ⟨hz, fun h9 => absurd h9 (by omega), J_s (J_m hJ0 1 r G P hg.1) hs⟩
    · exfalso
      try dsimp only at *
      omega
  · rcases hM with ⟨m1, m2, mv, mz⟩ | ⟨m1, mv, mz⟩ | ⟨m1, m2, mv, mz⟩
    · exfalso
      try dsimp only at *
      omega
    · exfalso
      try dsimp only at *
      omega
    · subst mv
      exact ⟨hz, fun h9 => absurd h9 (by omega), J_s (J_m hJ0 2 r G P hg.1) hs⟩
set_option maxHeartbeats 4000000 in
theorem J_keep {σ : Sg} {μ : Mg} {p0 z zb : Int} {u : Sg × (Nat → Int64)} {v : (Int × (Nat → Int) × (Nat → Int) × Nat)} (hJ : J σ μ) (hR : R_keep σ p0 z u) (hM : (fun z u => ((0 ≤ p0 ∧ p0 ≤ 7) ∧ μ.1.2.2.2.1 < 12 ∧ u = (0, zC μ.2.1 μ.2.2.1 0 (16 * μ.1.2.2.2.1) μ.1.2.1, zU μ.2.2.2.1 μ.1.2.2.2.1 p0, μ.1.2.2.2.1 + 1) ∧ z = (μ.1.2.2.2.1 : Int)) ∨ ((p0 < 0 ∨ 7 < p0) ∧ u = (1, μ.2.2.1, μ.2.2.2.1, μ.1.2.2.2.1) ∧ z = 0) ∨ ((0 ≤ p0 ∧ p0 ≤ 7) ∧ μ.1.2.2.2.1 = 12 ∧ u = (2, μ.2.2.1, μ.2.2.2.1, μ.1.2.2.2.1) ∧ z = 0)) zb v) : z = v.1 ∧ (z = 0 → u.2 0 = (iI zb).toInt64) ∧ J u.1 (((v.1, μ.1.2.1, μ.1.2.2.1, v.2.2.2, μ.1.2.2.2.2.1, μ.1.2.2.2.2.2.1, μ.1.2.2.2.2.2.2), (μ.2.1, v.2.1, v.2.2.1, μ.2.2.2.2.1, μ.2.2.2.2.2.1, μ.2.2.2.2.2.2.1, μ.2.2.2.2.2.2.2.1, μ.2.2.2.2.2.2.2.2.1, μ.2.2.2.2.2.2.2.2.2.1, μ.2.2.2.2.2.2.2.2.2.2)) : Mg) := by
  obtain ⟨⟨n, w, rc, sc⟩, ⟨q, X, la, sm⟩, C, ⟨nm, wt, PL, DI, T⟩⟩ := σ
  obtain ⟨⟨cd, n', w', rc', sc', mo, fo⟩, ⟨q', X', la', sm', r, G, P, PL', DI', T'⟩⟩ := μ
  have hJ0 := hJ
  obtain ⟨⟨⟨⟨o1, o1b⟩, o2, o3, o4⟩, ⟨v1, v2, v3, v4⟩, og, ol, ow⟩, ⟨e1, e2, e3, e4⟩, ⟨a1, a2, a3, a4⟩, hl, hg⟩ := hJ
  dsimp only at o1 o1b o2 o3 o4 v1 v2 v3 v4 og ol ow e1 e2 e3 e4 a1 a2 a3 a4 hg
  subst e1; subst e2; subst e3; subst e4
  unfold R_keep at hR
  try dsimp only at hR
  try dsimp only at hM
  rcases hR with ⟨hz, c1, c2, hu, hv⟩ | ⟨hz, c1, hs⟩ | ⟨hz, c1, c2, hs⟩
  · rcases hM with ⟨m1, m2, mv, mz⟩ | ⟨m1, mv, mz⟩ | ⟨m1, m2, mv, mz⟩
    · obtain ⟨u1, u2⟩ := u
      try dsimp only at hu; try dsimp only at hv; try dsimp only at c2
      subst hu; subst mv
      refine ⟨hz, fun _ => ?_, ⟨⟨⟨o1, o1b⟩, o2, ?_, o4⟩, ⟨v1, vals_C v1 v2 (by omega), rgA_u v3 (by omega), v4⟩, og, ol, ow⟩, ⟨rfl, rfl, rfl, rfl⟩, ⟨a1, agr_C a1 a2 (by omega), agr_u a3 _ _, a4⟩, hl, ⟨hg.1, hg.2.1, rgA_u hg.2.2 (by omega)⟩⟩
      · show u2 0 = _
        rw [hv, mz]
      · show _ + 1 ≤ 12; omega
    · exfalso
      try dsimp only at *
      omega
    · exfalso
      try dsimp only at *
      omega
  · rcases hM with ⟨m1, m2, mv, mz⟩ | ⟨m1, mv, mz⟩ | ⟨m1, m2, mv, mz⟩
    · exfalso
      try dsimp only at *
      omega
    · subst mv
      exact ⟨hz, fun h9 => absurd h9 (by omega), J_s (J_m hJ0 1 r G P hg.1) hs⟩
    · exfalso
      try dsimp only at *
      omega
  · rcases hM with ⟨m1, m2, mv, mz⟩ | ⟨m1, mv, mz⟩ | ⟨m1, m2, mv, mz⟩
    · exfalso
      try dsimp only at *
      omega
    · exfalso
      try dsimp only at *
      omega
    · subst mv
      exact ⟨hz, fun h9 => absurd h9 (by omega), J_s (J_m hJ0 2 r G P hg.1) hs⟩
set_option maxHeartbeats 4000000 in
theorem J_recall {σ : Sg} {μ : Mg} {p0 z : Int} {u : Sg × (Nat → Int64)} {v : (Int × (Nat → Int))} (hJ : J σ μ) (hR : R_recall σ p0 z u) (hM : (fun u => ((0 ≤ p0 ∧ p0 < (μ.1.2.2.2.1 : Int)) ∧ u = (0, zC μ.2.2.1 μ.2.1 (16 * p0.toNat) 0 μ.1.2.1)) ∨ ((p0 < 0 ∨ (μ.1.2.2.2.1 : Int) ≤ p0) ∧ u = (1, μ.2.1))) v) : z = v.1 ∧ J u.1 (((v.1, μ.1.2.1, μ.1.2.2.1, μ.1.2.2.2.1, μ.1.2.2.2.2.1, μ.1.2.2.2.2.2.1, μ.1.2.2.2.2.2.2), (v.2, μ.2.2.1, μ.2.2.2.1, μ.2.2.2.2.1, μ.2.2.2.2.2.1, μ.2.2.2.2.2.2.1, μ.2.2.2.2.2.2.2.1, μ.2.2.2.2.2.2.2.2.1, μ.2.2.2.2.2.2.2.2.2.1, μ.2.2.2.2.2.2.2.2.2.2)) : Mg) := by
  obtain ⟨⟨n, w, rc, sc⟩, ⟨q, X, la, sm⟩, C, ⟨nm, wt, PL, DI, T⟩⟩ := σ
  obtain ⟨⟨cd, n', w', rc', sc', mo, fo⟩, ⟨q', X', la', sm', r, G, P, PL', DI', T'⟩⟩ := μ
  have hJ0 := hJ
  obtain ⟨⟨⟨⟨o1, o1b⟩, o2, o3, o4⟩, ⟨v1, v2, v3, v4⟩, og, ol, ow⟩, ⟨e1, e2, e3, e4⟩, ⟨a1, a2, a3, a4⟩, hl, hg⟩ := hJ
  dsimp only at o1 o1b o2 o3 o4 v1 v2 v3 v4 og ol ow e1 e2 e3 e4 a1 a2 a3 a4 hg
  subst e1; subst e2; subst e3; subst e4
  unfold R_recall at hR
  try dsimp only at hR
  try dsimp only at hM
  rcases hR with ⟨hz, c1, hu⟩ | ⟨hz, c1, hs⟩
  · rcases hM with ⟨m1, mv⟩ | ⟨m1, mv⟩
    · obtain ⟨u1, u2⟩ := u
      try dsimp only at hu; try dsimp only at c1
      subst hu; subst mv
      exact ⟨hz, ⟨⟨⟨o1, o1b⟩, o2, o3, o4⟩, ⟨vals_C v2 v1 (by omega), v2, v3, v4⟩, og, ol, ow⟩, ⟨rfl, rfl, rfl, rfl⟩, ⟨agr_C a2 a1 (by omega), a2, a3, a4⟩, hl, hg⟩
    · exfalso
      try dsimp only at *
      omega
  · rcases hM with ⟨m1, mv⟩ | ⟨m1, mv⟩
    · exfalso
      try dsimp only at *
      omega
    · subst mv
      exact ⟨hz, J_s (J_m hJ0 1 r G P hg.1) hs⟩
set_option maxHeartbeats 4000000 in
theorem J_band {σ : Sg} {μ : Mg} {p0 z zb : Int} {u : Sg × (Nat → Int64)} {v : (Int × Nat)} (hJ : J σ μ) (hR : R_band σ p0 z u) (hM : (fun z u => ((0 ≤ p0 ∧ p0 ≤ 15) ∧ u = (0, p0.toNat) ∧ z = (μ.1.2.2.1 : Int)) ∨ ((p0 < 0 ∨ 15 < p0) ∧ u = (1, μ.1.2.2.1) ∧ z = 0)) zb v) : z = v.1 ∧ (z = 0 → u.2 0 = (iI zb).toInt64) ∧ J u.1 (((v.1, μ.1.2.1, v.2, μ.1.2.2.2.1, μ.1.2.2.2.2.1, μ.1.2.2.2.2.2.1, μ.1.2.2.2.2.2.2), (μ.2.1, μ.2.2.1, μ.2.2.2.1, μ.2.2.2.2.1, μ.2.2.2.2.2.1, μ.2.2.2.2.2.2.1, μ.2.2.2.2.2.2.2.1, μ.2.2.2.2.2.2.2.2.1, μ.2.2.2.2.2.2.2.2.2.1, μ.2.2.2.2.2.2.2.2.2.2)) : Mg) := by
  obtain ⟨⟨n, w, rc, sc⟩, ⟨q, X, la, sm⟩, C, ⟨nm, wt, PL, DI, T⟩⟩ := σ
  obtain ⟨⟨cd, n', w', rc', sc', mo, fo⟩, ⟨q', X', la', sm', r, G, P, PL', DI', T'⟩⟩ := μ
  have hJ0 := hJ
  obtain ⟨⟨⟨⟨o1, o1b⟩, o2, o3, o4⟩, ⟨v1, v2, v3, v4⟩, og, ol, ow⟩, ⟨e1, e2, e3, e4⟩, ⟨a1, a2, a3, a4⟩, hl, hg⟩ := hJ
  dsimp only at o1 o1b o2 o3 o4 v1 v2 v3 v4 og ol ow e1 e2 e3 e4 a1 a2 a3 a4 hg
  subst e1; subst e2; subst e3; subst e4
  unfold R_band at hR
  try dsimp only at hR
  try dsimp only at hM
  rcases hR with ⟨hz, c1, hu, hv⟩ | ⟨hz, c1, hs⟩
  · rcases hM with ⟨m1, mv, mz⟩ | ⟨m1, mv, mz⟩
    · obtain ⟨u1, u2⟩ := u
      try dsimp only at hu; try dsimp only at hv
      subst hu; subst mv
      refine ⟨hz, fun _ => ?_, ⟨⟨⟨o1, o1b⟩, ?_, o3, o4⟩, ⟨v1, v2, v3, v4⟩, og, ol, ow⟩, ⟨rfl, rfl, rfl, rfl⟩, ⟨a1, a2, a3, a4⟩, hl, hg⟩
      · show u2 0 = _
        rw [hv, mz]
      · show p0.toNat ≤ 15; omega
    · exfalso
      try dsimp only at *
      omega
  · rcases hM with ⟨m1, mv, mz⟩ | ⟨m1, mv, mz⟩
    · exfalso
      try dsimp only at *
      omega
    · subst mv
      exact ⟨hz, fun h9 => absurd h9 (by omega), J_s (J_m hJ0 1 r G P hg.1) hs⟩
set_option maxHeartbeats 4000000 in
theorem J_distance {σ : Sg} {μ : Mg} {p0 z zb : Int} {u : Sg × (Nat → Int64)} {v : (Int × (Nat → Int) × (Nat → Int))} (hJ : J σ μ) (hR : R_distance σ p0 z u) (hM : (fun z u => ((0 ≤ p0 ∧ p0 < (μ.1.2.2.2.1 : Int)) ∧ u.1 = 0 ∧ u.2.1 = (zC μ.2.2.1 μ.2.2.2.2.2.1 (16 * p0.toNat) 0 μ.1.2.1) ∧ rgA u.2.2 ∧ z = cst μ.1.2.2.1 μ.2.1 (zC μ.2.2.1 μ.2.2.2.2.2.1 (16 * p0.toNat) 0 μ.1.2.1) (μ.1.2.1 - 1) (μ.1.2.1 - 1)) ∨ ((p0 < 0 ∨ (μ.1.2.2.2.1 : Int) ≤ p0) ∧ u = (1, μ.2.2.2.2.2.1, μ.2.2.2.2.2.2.1) ∧ z = 0)) zb v) : z = v.1 ∧ (z = 0 → u.2 0 = (iI zb).toInt64) ∧ J u.1 (((v.1, μ.1.2.1, μ.1.2.2.1, μ.1.2.2.2.1, μ.1.2.2.2.2.1, μ.1.2.2.2.2.2.1, μ.1.2.2.2.2.2.2), (μ.2.1, μ.2.2.1, μ.2.2.2.1, μ.2.2.2.2.1, v.2.1, v.2.2, μ.2.2.2.2.2.2.2.1, μ.2.2.2.2.2.2.2.2.1, μ.2.2.2.2.2.2.2.2.2.1, μ.2.2.2.2.2.2.2.2.2.2)) : Mg) := by
  obtain ⟨⟨n, w, rc, sc⟩, ⟨q, X, la, sm⟩, C, ⟨nm, wt, PL, DI, T⟩⟩ := σ
  obtain ⟨⟨cd, n', w', rc', sc', mo, fo⟩, ⟨q', X', la', sm', r, G, P, PL', DI', T'⟩⟩ := μ
  have hJ0 := hJ
  obtain ⟨⟨⟨⟨o1, o1b⟩, o2, o3, o4⟩, ⟨v1, v2, v3, v4⟩, og, ol, ow⟩, ⟨e1, e2, e3, e4⟩, ⟨a1, a2, a3, a4⟩, hl, hg⟩ := hJ
  dsimp only at o1 o1b o2 o3 o4 v1 v2 v3 v4 og ol ow e1 e2 e3 e4 a1 a2 a3 a4 hg
  subst e1; subst e2; subst e3; subst e4
  unfold R_distance at hR
  try dsimp only at hR
  try dsimp only at hM
  rcases hR with ⟨hz, c1, hs, hv⟩ | ⟨hz, c1, hs⟩
  · rcases hM with ⟨m1, mv, mv2, mG, mz⟩ | ⟨m1, mv, mz⟩
    · obtain ⟨w1, w2, w3⟩ := v
      try dsimp only at mv; try dsimp only at mv2; try dsimp only at mG; try dsimp only at mz; try dsimp only at c1; try dsimp only at hv
      subst mv; subst mv2
      refine ⟨hz, fun _ => ?_, J_s (J_m hJ0 _ _ _ P mG) hs⟩
      rw [hv, mz, cst_cg (a1.le (by omega)) (agr_rw (r := r) a2 (by omega)) (by omega) (by omega)]
    · exfalso
      try dsimp only at *
      omega
  · rcases hM with ⟨m1, mv, mv2, mG, mz⟩ | ⟨m1, mv, mz⟩
    · exfalso
      try dsimp only at *
      omega
    · subst mv
      exact ⟨hz, fun h9 => absurd h9 (by omega), J_s (J_m hJ0 1 r G P hg.1) hs⟩
set_option maxHeartbeats 4000000 in
theorem J_bound {σ : Sg} {μ : Mg} {p0 p1 z zb : Int} {u : Sg × (Nat → Int64)} {v : (Int × (Nat → Int))} (hJ : J σ μ) (hR : R_bound σ p0 p1 z u) (hM : (fun z u => ((0 ≤ p0 ∧ p0 < (μ.1.2.2.2.1 : Int)) ∧ (0 ≤ p1 ∧ p1 ≤ 2) ∧ u = (0, (zC μ.2.2.1 μ.2.2.2.2.2.1 (16 * p0.toNat) 0 μ.1.2.1)) ∧ z = lbd μ.1.2.1 μ.1.2.2.1 μ.2.1 (zC μ.2.2.1 μ.2.2.2.2.2.1 (16 * p0.toNat) 0 μ.1.2.1) p1) ∨ ((p0 < 0 ∨ (μ.1.2.2.2.1 : Int) ≤ p0) ∧ u = (1, μ.2.2.2.2.2.1) ∧ z = 0) ∨ ((0 ≤ p0 ∧ p0 < (μ.1.2.2.2.1 : Int)) ∧ (p1 < 0 ∨ 2 < p1) ∧ u = (2, μ.2.2.2.2.2.1) ∧ z = 0)) zb v) : z = v.1 ∧ (z = 0 → u.2 0 = (iI zb).toInt64) ∧ J u.1 (((v.1, μ.1.2.1, μ.1.2.2.1, μ.1.2.2.2.1, μ.1.2.2.2.2.1, μ.1.2.2.2.2.2.1, μ.1.2.2.2.2.2.2), (μ.2.1, μ.2.2.1, μ.2.2.2.1, μ.2.2.2.2.1, v.2, μ.2.2.2.2.2.2.1, μ.2.2.2.2.2.2.2.1, μ.2.2.2.2.2.2.2.2.1, μ.2.2.2.2.2.2.2.2.2.1, μ.2.2.2.2.2.2.2.2.2.2)) : Mg) := by
  obtain ⟨⟨n, w, rc, sc⟩, ⟨q, X, la, sm⟩, C, ⟨nm, wt, PL, DI, T⟩⟩ := σ
  obtain ⟨⟨cd, n', w', rc', sc', mo, fo⟩, ⟨q', X', la', sm', r, G, P, PL', DI', T'⟩⟩ := μ
  have hJ0 := hJ
  obtain ⟨⟨⟨⟨o1, o1b⟩, o2, o3, o4⟩, ⟨v1, v2, v3, v4⟩, og, ol, ow⟩, ⟨e1, e2, e3, e4⟩, ⟨a1, a2, a3, a4⟩, hl, hg⟩ := hJ
  dsimp only at o1 o1b o2 o3 o4 v1 v2 v3 v4 og ol ow e1 e2 e3 e4 a1 a2 a3 a4 hg
  subst e1; subst e2; subst e3; subst e4
  unfold R_bound at hR
  try dsimp only at hR
  try dsimp only at hM
  rcases hR with ⟨hz, c1, c2, hs, hv⟩ | ⟨hz, c1, hs⟩ | ⟨hz, c1, c2, hs⟩
  · rcases hM with ⟨m1, m2, mv, mz⟩ | ⟨m1, mv, mz⟩ | ⟨m1, m2, mv, mz⟩
    · try dsimp only at mv; try dsimp only at mz; try dsimp only at c1; try dsimp only at hv
      subst mv
      refine ⟨hz, fun _ => ?_, J_s (J_m hJ0 _ _ _ P hg.1) hs⟩
      rw [hv, mz, lbd_cg (by omega) (a1.le (by omega)) (agr_rw (r := r) a2 (by omega))]
    · exfalso
      try dsimp only at *
      omega
    · exfalso
      try dsimp only at *
      omega
  · rcases hM with ⟨m1, m2, mv, mz⟩ | ⟨m1, mv, mz⟩ | ⟨m1, m2, mv, mz⟩
    · exfalso
      try dsimp only at *
      omega
    · subst mv
      exact ⟨hz, fun h9 => absurd h9 (by omega), J_s (J_m hJ0 1 r G P hg.1) hs⟩
    · exfalso
      try dsimp only at *
      omega
  · rcases hM with ⟨m1, m2, mv, mz⟩ | ⟨m1, mv, mz⟩ | ⟨m1, m2, mv, mz⟩
    · exfalso
      try dsimp only at *
      omega
    · exfalso
      try dsimp only at *
      omega
    · subst mv
      exact ⟨hz, fun h9 => absurd h9 (by omega), J_s (J_m hJ0 2 r G P hg.1) hs⟩
set_option maxHeartbeats 4000000 in
theorem J_steps {σ : Sg} {μ : Mg} {p0 z zb : Int} {u : Sg × (Nat → Int64)} {v : (Int × (Nat → Int) × (Nat → Int) × (Nat → Int))} (hJ : J σ μ) (hR : R_steps σ p0 z u) (hM : (fun z u => ((0 ≤ p0 ∧ p0 < (μ.1.2.2.2.1 : Int)) ∧ u.1 = 0 ∧ u.2.1 = (zC μ.2.2.1 μ.2.2.2.2.2.1 (16 * p0.toNat) 0 μ.1.2.1) ∧ rgA u.2.2.1 ∧ ∃ t : Nat, z = (t : Int) ∧ isMany μ.1.2.2.1 μ.1.2.1 μ.2.1 (zC μ.2.2.1 μ.2.2.2.2.2.1 (16 * p0.toNat) 0 μ.1.2.1) t ∧ t ≤ 31) ∨ ((p0 < 0 ∨ (μ.1.2.2.2.1 : Int) ≤ p0) ∧ u = (1, μ.2.2.2.2.2.1, μ.2.2.2.2.2.2.1, μ.2.2.2.2.2.2.2.1) ∧ z = 0)) zb v) : z = v.1 ∧ (z = 0 → u.2 0 = (iI zb).toInt64) ∧ J u.1 (((v.1, μ.1.2.1, μ.1.2.2.1, μ.1.2.2.2.1, μ.1.2.2.2.2.1, μ.1.2.2.2.2.2.1, μ.1.2.2.2.2.2.2), (μ.2.1, μ.2.2.1, μ.2.2.2.1, μ.2.2.2.2.1, v.2.1, v.2.2.1, v.2.2.2, μ.2.2.2.2.2.2.2.2.1, μ.2.2.2.2.2.2.2.2.2.1, μ.2.2.2.2.2.2.2.2.2.2)) : Mg) := by
  obtain ⟨⟨n, w, rc, sc⟩, ⟨q, X, la, sm⟩, C, ⟨nm, wt, PL, DI, T⟩⟩ := σ
  obtain ⟨⟨cd, n', w', rc', sc', mo, fo⟩, ⟨q', X', la', sm', r, G, P, PL', DI', T'⟩⟩ := μ
  have hJ0 := hJ
  obtain ⟨⟨⟨⟨o1, o1b⟩, o2, o3, o4⟩, ⟨v1, v2, v3, v4⟩, og, ol, ow⟩, ⟨e1, e2, e3, e4⟩, ⟨a1, a2, a3, a4⟩, hl, hg⟩ := hJ
  dsimp only at o1 o1b o2 o3 o4 v1 v2 v3 v4 og ol ow e1 e2 e3 e4 a1 a2 a3 a4 hg
  subst e1; subst e2; subst e3; subst e4
  unfold R_steps at hR
  try dsimp only at hR
  try dsimp only at hM
  rcases hR with ⟨hz, c1, hs, t, ht, ht2, hv⟩ | ⟨hz, c1, hs⟩
  · rcases hM with ⟨m1, mv, mv2, mG, t2, mz, mt, mt2⟩ | ⟨m1, mv, mz⟩
    · obtain ⟨w1, w2, w3, w4⟩ := v
      try dsimp only at mv; try dsimp only at mv2; try dsimp only at mG; try dsimp only at mz; try dsimp only at c1; try dsimp only at hv; try dsimp only at ht; try dsimp only at mt
      subst mv; subst mv2
      refine ⟨hz, fun _ => ?_, J_s (J_m hJ0 _ _ _ _ mG) hs⟩
      have et := isMany_one (isMany_cg (a1.le (by omega)) (agr_rw (r := r) a2 (by omega)) ht) mt
      rw [hv, mz, et]
    · exfalso
      try dsimp only at *
      omega
  · rcases hM with ⟨m1, mv, mv2, mG, t2, mz, mt, mt2⟩ | ⟨m1, mv, mz⟩
    · exfalso
      try dsimp only at *
      omega
    · subst mv
      exact ⟨hz, fun h9 => absurd h9 (by omega), J_s (J_m hJ0 1 r G P hg.1) hs⟩
set_option maxHeartbeats 4000000 in
theorem J_pair {σ : Sg} {μ : Mg} {p0 p1 z zb : Int} {u : Sg × (Nat → Int64)} {v : (Int × (Nat → Int) × (Nat → Int) × (Nat → Int))} (hJ : J σ μ) (hR : R_pair σ p0 p1 z u) (hM : (fun z u => ((0 ≤ p0 ∧ p0 < (μ.1.2.2.2.1 : Int)) ∧ u.1 = 0 ∧ u.2.1 = (zC μ.2.2.1 μ.2.2.2.2.2.1 (16 * p0.toNat) 0 μ.1.2.1) ∧ rgA u.2.2.1 ∧ ∃ t : Nat, isMany μ.1.2.2.1 μ.1.2.1 μ.2.1 (zC μ.2.2.1 μ.2.2.2.2.2.1 (16 * p0.toNat) 0 μ.1.2.1) t ∧ t ≤ 31 ∧ (0 ≤ p1 ∧ p1 < (t : Int)) ∧ z = 16 * (pseq μ.1.2.2.1 μ.1.2.1 μ.2.1 (zC μ.2.2.1 μ.2.2.2.2.2.1 (16 * p0.toNat) 0 μ.1.2.1) (t - 1 - p1.toNat)).1 + (pseq μ.1.2.2.1 μ.1.2.1 μ.2.1 (zC μ.2.2.1 μ.2.2.2.2.2.1 (16 * p0.toNat) 0 μ.1.2.1) (t - 1 - p1.toNat)).2) ∨ ((p0 < 0 ∨ (μ.1.2.2.2.1 : Int) ≤ p0) ∧ u = (1, μ.2.2.2.2.2.1, μ.2.2.2.2.2.2.1, μ.2.2.2.2.2.2.2.1) ∧ z = 0) ∨ ((0 ≤ p0 ∧ p0 < (μ.1.2.2.2.1 : Int)) ∧ u.1 = 1 ∧ u.2.1 = (zC μ.2.2.1 μ.2.2.2.2.2.1 (16 * p0.toNat) 0 μ.1.2.1) ∧ rgA u.2.2.1 ∧ z = 0 ∧ ∃ t : Nat, isMany μ.1.2.2.1 μ.1.2.1 μ.2.1 (zC μ.2.2.1 μ.2.2.2.2.2.1 (16 * p0.toNat) 0 μ.1.2.1) t ∧ t ≤ 31 ∧ (p1 < 0 ∨ (t : Int) ≤ p1))) zb v) : z = v.1 ∧ (z = 0 → u.2 0 = (iI zb).toInt64) ∧ J u.1 (((v.1, μ.1.2.1, μ.1.2.2.1, μ.1.2.2.2.1, μ.1.2.2.2.2.1, μ.1.2.2.2.2.2.1, μ.1.2.2.2.2.2.2), (μ.2.1, μ.2.2.1, μ.2.2.2.1, μ.2.2.2.2.1, v.2.1, v.2.2.1, v.2.2.2, μ.2.2.2.2.2.2.2.2.1, μ.2.2.2.2.2.2.2.2.2.1, μ.2.2.2.2.2.2.2.2.2.2)) : Mg) := by
  obtain ⟨⟨n, w, rc, sc⟩, ⟨q, X, la, sm⟩, C, ⟨nm, wt, PL, DI, T⟩⟩ := σ
  obtain ⟨⟨cd, n', w', rc', sc', mo, fo⟩, ⟨q', X', la', sm', r, G, P, PL', DI', T'⟩⟩ := μ
  have hJ0 := hJ
  obtain ⟨⟨⟨⟨o1, o1b⟩, o2, o3, o4⟩, ⟨v1, v2, v3, v4⟩, og, ol, ow⟩, ⟨e1, e2, e3, e4⟩, ⟨a1, a2, a3, a4⟩, hl, hg⟩ := hJ
  dsimp only at o1 o1b o2 o3 o4 v1 v2 v3 v4 og ol ow e1 e2 e3 e4 a1 a2 a3 a4 hg
  subst e1; subst e2; subst e3; subst e4
  unfold R_pair at hR
  try dsimp only at hR
  try dsimp only at hM
  rcases hR with ⟨hz, c1, hs, t, ht, ht2, c2, hv⟩ | ⟨hz, hE, hs⟩
  · rcases hM with ⟨m1, mv, mv2, mG, t2, mt, mt2, m2, mz⟩ | ⟨m1, mv, mz⟩ | ⟨m1, mv, mv2, mG, mz, t2, mt, mt2, m2⟩
    · obtain ⟨w1, w2, w3, w4⟩ := v
      try dsimp only at mv; try dsimp only at mv2; try dsimp only at mG; try dsimp only at mz; try dsimp only at c1; try dsimp only at hv; try dsimp only at ht; try dsimp only at mt
      subst mv; subst mv2
      refine ⟨hz, fun _ => ?_, J_s (J_m hJ0 _ _ _ _ mG) hs⟩
      have et := isMany_one (isMany_cg (a1.le (by omega)) (agr_rw (r := r) a2 (by omega)) ht) mt
      subst et
      rw [hv, mz, (pseq_cg (a1.le (by omega)) (agr_rw (r := r) a2 (by omega)) _).1]
    · exfalso
      try dsimp only at *
      omega
    · exfalso
      try dsimp only at c1; try dsimp only at ht; try dsimp only at mt
      have et := isMany_one (isMany_cg (a1.le (by omega)) (agr_rw (r := r) a2 (by omega)) ht) mt
      omega
  · rcases hM with ⟨m1, mv, mv2, mG, t2, mt, mt2, m2, mz⟩ | ⟨m1, mv, mz⟩ | ⟨m1, mv, mv2, mG, mz, t2, mt, mt2, m2⟩
    · exfalso
      try dsimp only at m1; try dsimp only at mt
      rcases hE with hE | ⟨c1, t, ht, ht2, hE⟩
      · try dsimp only at hE
        omega
      · try dsimp only at c1
        have et := isMany_one (isMany_cg (a1.le (by omega)) (agr_rw (r := r) a2 (by omega)) ht) mt
        omega
    · subst mv
      exact ⟨hz, fun h9 => absurd h9 (by omega), J_s (J_m hJ0 1 r G P hg.1) hs⟩
    · obtain ⟨w1, w2, w3, w4⟩ := v
      try dsimp only at mv; try dsimp only at mv2; try dsimp only at mG
      subst mv; subst mv2
      exact ⟨hz, fun h9 => absurd h9 (by omega), J_s (J_m hJ0 _ _ _ _ mG) hs⟩
set_option maxHeartbeats 4000000 in
theorem J_search {σ : Sg} {μ : Mg} {p0 z zb : Int} {u : Sg × (Nat → Int64)} {v : (Int × Nat × Lst × (Nat → Int) × (Nat → Int))} (hJ : J σ μ) (hR : R_search σ p0 z u) (hM : (fun z u => ((1 ≤ p0 ∧ p0 ≤ 12) ∧ (0 < μ.1.2.2.2.1) ∧ u.1 = 0 ∧ u.2.1 = p0.toNat ∧ lsim u.2.2.1 (srch μ.1.2.1 μ.1.2.2.1 μ.2.1 (fun p j => μ.2.2.1 (16 * p + j)) p0.toNat (0, μ.2.2.2.2.2.2.2.2.1, μ.2.2.2.2.2.2.2.2.2.1, zF μ.2.2.2.2.2.2.2.2.2.2 5 0) (μ.1.2.2.2.1)) ∧ lok p0.toNat u.2.2.1 ∧ rgA u.2.2.2.2 ∧ z = (u.2.2.1.1 : Int)) ∨ ((p0 < 1 ∨ 12 < p0) ∧ u = (1, μ.1.2.2.2.2.2.1, (μ.1.2.2.2.2.2.2, μ.2.2.2.2.2.2.2.2.1, μ.2.2.2.2.2.2.2.2.2.1, μ.2.2.2.2.2.2.2.2.2.2), μ.2.2.2.2.2.1, μ.2.2.2.2.2.2.1) ∧ z = 0) ∨ ((1 ≤ p0 ∧ p0 ≤ 12) ∧ ¬ (0 < μ.1.2.2.2.1) ∧ u = (2, μ.1.2.2.2.2.2.1, (μ.1.2.2.2.2.2.2, μ.2.2.2.2.2.2.2.2.1, μ.2.2.2.2.2.2.2.2.2.1, μ.2.2.2.2.2.2.2.2.2.2), μ.2.2.2.2.2.1, μ.2.2.2.2.2.2.1) ∧ z = 0)) zb v) : z = v.1 ∧ (z = 0 → u.2 0 = (iI zb).toInt64) ∧ J u.1 (((v.1, μ.1.2.1, μ.1.2.2.1, μ.1.2.2.2.1, μ.1.2.2.2.2.1, v.2.1, v.2.2.1.1), (μ.2.1, μ.2.2.1, μ.2.2.2.1, μ.2.2.2.2.1, v.2.2.2.1, v.2.2.2.2, μ.2.2.2.2.2.2.2.1, v.2.2.1.2.1, v.2.2.1.2.2.1, v.2.2.1.2.2.2)) : Mg) := by
  obtain ⟨⟨n, w, rc, sc⟩, ⟨q, X, la, sm⟩, C, ⟨nm, wt, PL, DI, T⟩⟩ := σ
  obtain ⟨⟨cd, n', w', rc', sc', mo, fo⟩, ⟨q', X', la', sm', r, G, P, PL', DI', T'⟩⟩ := μ
  have hJ0 := hJ
  obtain ⟨⟨⟨⟨o1, o1b⟩, o2, o3, o4⟩, ⟨v1, v2, v3, v4⟩, og, ol, ow⟩, ⟨e1, e2, e3, e4⟩, ⟨a1, a2, a3, a4⟩, hl, hg⟩ := hJ
  dsimp only at o1 o1b o2 o3 o4 v1 v2 v3 v4 og ol ow e1 e2 e3 e4 a1 a2 a3 a4 hg
  subst e1; subst e2; subst e3; subst e4
  unfold R_search at hR
  try dsimp only at hR
  try dsimp only at hM
  rcases hR with ⟨hz, c1, c2, ⟨hA, hB, hW, hL, hK, hG⟩, hv⟩ | ⟨hz, c1, hs⟩ | ⟨hz, c1, c2, hs⟩
  · rcases hM with ⟨m1, m2, mv, mv2, mL, mK, mG, mz⟩ | ⟨m1, mv, mz⟩ | ⟨m1, m2, mv, mz⟩
    · obtain ⟨⟨⟨b1, b2, b3, b4⟩, ⟨f1, f2, f3, f4⟩, C2, ⟨k1, k2, k3, k4, k5⟩⟩, u2⟩ := u
      obtain ⟨w1, w2, ⟨x1, x2, x3, x4⟩, w4, w5⟩ := v
      try dsimp only at hA; try dsimp only at hB; try dsimp only at hW; try dsimp only at hL; try dsimp only at hK; try dsimp only at hG; try dsimp only at hv; try dsimp only at mv; try dsimp only at mv2; try dsimp only at mL; try dsimp only at mK; try dsimp only at mG; try dsimp only at mz; try dsimp only at c1; try dsimp only at c2; try dsimp only at m1; try dsimp only at m2
      injection hA with g1 g2
      injection g2 with g2 g3
      injection g3 with g3 g4
      injection hB with i1 i2
      injection i2 with i2 i3
      injection i3 with i3 i4
      subst g1; subst g2; subst g3; subst g4; subst i1; subst i2; subst i3; subst i4; subst hW; subst mv; subst mv2
      have hsm := srch_sim (n := b1) (w := b2) (wt := p0.toNat) (q := f1) (q' := q') (rf := (fun p9 j9 => f2 (16 * p9 + j9))) (rf' := (fun p9 j9 => X' (16 * p9 + j9))) (x := (0, PL, DI, zF T 5 0)) (y := (0, PL', DI', zF T' 5 0)) ⟨o1, o1b⟩ (by omega) (v1.le (by omega)) b3 (fun p hp a ha => v2 _ (by omega)) (a1.le (by omega)) (fun p hp a ha => a2 _ (by omega)) rfl ⟨Nat.zero_le _, ol.2.1, fun k h => absurd h (Nat.not_lt_zero _)⟩ ⟨rfl, fun k h => absurd h (Nat.not_lt_zero _), fun k h => absurd h (Nat.not_lt_zero _), fun k h => by simp [zF, h]⟩ b3 (Nat.le_refl _)
      rw [← hL] at hsm
      have hlm := hsm.trans' mL.symm'
      refine ⟨hz, fun _ => ?_, ?_⟩
      · show u2 0 = _
        rw [hv, mz]
        have e9 := hlm.1
        dsimp only at e9
        rw [e9]
      · exact ⟨⟨⟨⟨o1, o1b⟩, o2, o3, o4⟩, ⟨v1, v2, v3, v4⟩, hG, hK, ⟨by show 1 ≤ p0.toNat; omega, by show p0.toNat ≤ 12; omega⟩⟩, ⟨rfl, rfl, rfl, rfl⟩, ⟨a1, a2, a3, a4⟩, hlm, ⟨mG, mK.2.1, hg.2.2⟩⟩
    · exfalso
      try dsimp only at *
      omega
    · exfalso
      try dsimp only at *
      omega
  · rcases hM with ⟨m1, m2, mv, mv2, mL, mK, mG, mz⟩ | ⟨m1, mv, mz⟩ | ⟨m1, m2, mv, mz⟩
    · exfalso
      try dsimp only at *
      omega
    · subst mv
      exact ⟨hz, fun h9 => absurd h9 (by omega), J_s (J_m hJ0 1 r G P hg.1) hs⟩
    · exfalso
      try dsimp only at *
      omega
  · rcases hM with ⟨m1, m2, mv, mv2, mL, mK, mG, mz⟩ | ⟨m1, mv, mz⟩ | ⟨m1, m2, mv, mz⟩
    · exfalso
      try dsimp only at *
      omega
    · exfalso
      try dsimp only at *
      omega
    · subst mv
      exact ⟨hz, fun h9 => absurd h9 (by omega), J_s (J_m hJ0 2 r G P hg.1) hs⟩
set_option maxHeartbeats 4000000 in
theorem J_scan {σ : Sg} {μ : Mg} {p0 z zb : Int} {u : Sg × (Nat → Int64)} {v : (Int × Nat × Lst × (Nat → Int) × (Nat → Int))} (hJ : J σ μ) (hR : R_scan σ p0 z u) (hM : (fun z u => ((1 ≤ p0 ∧ p0 ≤ 12) ∧ (μ.1.2.1 ≤ μ.1.2.2.2.2.1) ∧ u.1 = 0 ∧ u.2.1 = p0.toNat ∧ lsim u.2.2.1 (srch μ.1.2.1 μ.1.2.2.1 μ.2.1 (fun p j => μ.2.2.2.2.1 (p + j)) p0.toNat (0, μ.2.2.2.2.2.2.2.2.1, μ.2.2.2.2.2.2.2.2.2.1, zF μ.2.2.2.2.2.2.2.2.2.2 5 0) (μ.1.2.2.2.2.1 + 1 - μ.1.2.1)) ∧ lok p0.toNat u.2.2.1 ∧ rgA u.2.2.2.2 ∧ z = (u.2.2.1.1 : Int)) ∨ ((p0 < 1 ∨ 12 < p0) ∧ u = (1, μ.1.2.2.2.2.2.1, (μ.1.2.2.2.2.2.2, μ.2.2.2.2.2.2.2.2.1, μ.2.2.2.2.2.2.2.2.2.1, μ.2.2.2.2.2.2.2.2.2.2), μ.2.2.2.2.2.1, μ.2.2.2.2.2.2.1) ∧ z = 0) ∨ ((1 ≤ p0 ∧ p0 ≤ 12) ∧ ¬ (μ.1.2.1 ≤ μ.1.2.2.2.2.1) ∧ u = (2, μ.1.2.2.2.2.2.1, (μ.1.2.2.2.2.2.2, μ.2.2.2.2.2.2.2.2.1, μ.2.2.2.2.2.2.2.2.2.1, μ.2.2.2.2.2.2.2.2.2.2), μ.2.2.2.2.2.1, μ.2.2.2.2.2.2.1) ∧ z = 0)) zb v) : z = v.1 ∧ (z = 0 → u.2 0 = (iI zb).toInt64) ∧ J u.1 (((v.1, μ.1.2.1, μ.1.2.2.1, μ.1.2.2.2.1, μ.1.2.2.2.2.1, v.2.1, v.2.2.1.1), (μ.2.1, μ.2.2.1, μ.2.2.2.1, μ.2.2.2.2.1, v.2.2.2.1, v.2.2.2.2, μ.2.2.2.2.2.2.2.1, v.2.2.1.2.1, v.2.2.1.2.2.1, v.2.2.1.2.2.2)) : Mg) := by
  obtain ⟨⟨n, w, rc, sc⟩, ⟨q, X, la, sm⟩, C, ⟨nm, wt, PL, DI, T⟩⟩ := σ
  obtain ⟨⟨cd, n', w', rc', sc', mo, fo⟩, ⟨q', X', la', sm', r, G, P, PL', DI', T'⟩⟩ := μ
  have hJ0 := hJ
  obtain ⟨⟨⟨⟨o1, o1b⟩, o2, o3, o4⟩, ⟨v1, v2, v3, v4⟩, og, ol, ow⟩, ⟨e1, e2, e3, e4⟩, ⟨a1, a2, a3, a4⟩, hl, hg⟩ := hJ
  dsimp only at o1 o1b o2 o3 o4 v1 v2 v3 v4 og ol ow e1 e2 e3 e4 a1 a2 a3 a4 hg
  subst e1; subst e2; subst e3; subst e4
  unfold R_scan at hR
  try dsimp only at hR
  try dsimp only at hM
  rcases hR with ⟨hz, c1, c2, ⟨hA, hB, hW, hL, hK, hG⟩, hv⟩ | ⟨hz, c1, hs⟩ | ⟨hz, c1, c2, hs⟩
  · rcases hM with ⟨m1, m2, mv, mv2, mL, mK, mG, mz⟩ | ⟨m1, mv, mz⟩ | ⟨m1, m2, mv, mz⟩
    · obtain ⟨⟨⟨b1, b2, b3, b4⟩, ⟨f1, f2, f3, f4⟩, C2, ⟨k1, k2, k3, k4, k5⟩⟩, u2⟩ := u
      obtain ⟨w1, w2, ⟨x1, x2, x3, x4⟩, w4, w5⟩ := v
      try dsimp only at hA; try dsimp only at hB; try dsimp only at hW; try dsimp only at hL; try dsimp only at hK; try dsimp only at hG; try dsimp only at hv; try dsimp only at mv; try dsimp only at mv2; try dsimp only at mL; try dsimp only at mK; try dsimp only at mG; try dsimp only at mz; try dsimp only at c1; try dsimp only at c2; try dsimp only at m1; try dsimp only at m2
      injection hA with g1 g2
      injection g2 with g2 g3
      injection g3 with g3 g4
      injection hB with i1 i2
      injection i2 with i2 i3
      injection i3 with i3 i4
      subst g1; subst g2; subst g3; subst g4; subst i1; subst i2; subst i3; subst i4; subst hW; subst mv; subst mv2
      have hsm := srch_sim (n := b1) (w := b2) (wt := p0.toNat) (q := f1) (q' := q') (rf := (fun p9 j9 => f4 (p9 + j9))) (rf' := (fun p9 j9 => sm' (p9 + j9))) (x := (0, PL, DI, zF T 5 0)) (y := (0, PL', DI', zF T' 5 0)) ⟨o1, o1b⟩ (by omega) (v1.le (by omega)) (b4 + 1 - b1) (fun p hp a ha => v4 _ (by omega)) (a1.le (by omega)) (fun p hp a ha => a4 _ (by omega)) rfl ⟨Nat.zero_le _, ol.2.1, fun k h => absurd h (Nat.not_lt_zero _)⟩ ⟨rfl, fun k h => absurd h (Nat.not_lt_zero _), fun k h => absurd h (Nat.not_lt_zero _), fun k h => by simp [zF, h]⟩ (b4 + 1 - b1) (Nat.le_refl _)
      rw [← hL] at hsm
      have hlm := hsm.trans' mL.symm'
      refine ⟨hz, fun _ => ?_, ?_⟩
      · show u2 0 = _
        rw [hv, mz]
        have e9 := hlm.1
        dsimp only at e9
        rw [e9]
      · exact ⟨⟨⟨⟨o1, o1b⟩, o2, o3, o4⟩, ⟨v1, v2, v3, v4⟩, hG, hK, ⟨by show 1 ≤ p0.toNat; omega, by show p0.toNat ≤ 12; omega⟩⟩, ⟨rfl, rfl, rfl, rfl⟩, ⟨a1, a2, a3, a4⟩, hlm, ⟨mG, mK.2.1, hg.2.2⟩⟩
    · exfalso
      try dsimp only at *
      omega
    · exfalso
      try dsimp only at *
      omega
  · rcases hM with ⟨m1, m2, mv, mv2, mL, mK, mG, mz⟩ | ⟨m1, mv, mz⟩ | ⟨m1, m2, mv, mz⟩
    · exfalso
      try dsimp only at *
      omega
    · subst mv
      exact ⟨hz, fun h9 => absurd h9 (by omega), J_s (J_m hJ0 1 r G P hg.1) hs⟩
    · exfalso
      try dsimp only at *
      omega
  · rcases hM with ⟨m1, m2, mv, mv2, mL, mK, mG, mz⟩ | ⟨m1, mv, mz⟩ | ⟨m1, m2, mv, mz⟩
    · exfalso
      try dsimp only at *
      omega
    · exfalso
      try dsimp only at *
      omega
    · subst mv
      exact ⟨hz, fun h9 => absurd h9 (by omega), J_s (J_m hJ0 2 r G P hg.1) hs⟩
set_option maxHeartbeats 4000000 in
theorem J_guess {σ : Sg} {μ : Mg} {p0 z zb : Int} {u : Sg × (Nat → Int64)} {v : (Int × Nat × Lst × (Nat → Int) × (Nat → Int))} (hJ : J σ μ) (hR : R_guess σ p0 z u) (hM : (fun z u => ((1 ≤ p0 ∧ p0 ≤ 12) ∧ (0 < μ.1.2.2.2.1) ∧ u.1 = 0 ∧ u.2.1 = p0.toNat ∧ lsim u.2.2.1 (srch μ.1.2.1 μ.1.2.2.1 μ.2.1 (fun p j => μ.2.2.1 (16 * p + j)) p0.toNat (0, μ.2.2.2.2.2.2.2.2.1, μ.2.2.2.2.2.2.2.2.2.1, zF μ.2.2.2.2.2.2.2.2.2.2 5 0) (μ.1.2.2.2.1)) ∧ lok p0.toNat u.2.2.1 ∧ rgA u.2.2.2.2 ∧ z = (gss μ.2.2.2.1 u.2.2.1.2.1 u.2.2.1.1 0 u.2.2.1.1).1) ∨ ((p0 < 1 ∨ 12 < p0) ∧ u = (1, μ.1.2.2.2.2.2.1, (μ.1.2.2.2.2.2.2, μ.2.2.2.2.2.2.2.2.1, μ.2.2.2.2.2.2.2.2.2.1, μ.2.2.2.2.2.2.2.2.2.2), μ.2.2.2.2.2.1, μ.2.2.2.2.2.2.1) ∧ z = 0) ∨ ((1 ≤ p0 ∧ p0 ≤ 12) ∧ ¬ (0 < μ.1.2.2.2.1) ∧ u = (2, μ.1.2.2.2.2.2.1, (μ.1.2.2.2.2.2.2, μ.2.2.2.2.2.2.2.2.1, μ.2.2.2.2.2.2.2.2.2.1, μ.2.2.2.2.2.2.2.2.2.2), μ.2.2.2.2.2.1, μ.2.2.2.2.2.2.1) ∧ z = 0)) zb v) : z = v.1 ∧ (z = 0 → u.2 0 = (iI zb).toInt64) ∧ J u.1 (((v.1, μ.1.2.1, μ.1.2.2.1, μ.1.2.2.2.1, μ.1.2.2.2.2.1, v.2.1, v.2.2.1.1), (μ.2.1, μ.2.2.1, μ.2.2.2.1, μ.2.2.2.2.1, v.2.2.2.1, v.2.2.2.2, μ.2.2.2.2.2.2.2.1, v.2.2.1.2.1, v.2.2.1.2.2.1, v.2.2.1.2.2.2)) : Mg) := by
  obtain ⟨⟨n, w, rc, sc⟩, ⟨q, X, la, sm⟩, C, ⟨nm, wt, PL, DI, T⟩⟩ := σ
  obtain ⟨⟨cd, n', w', rc', sc', mo, fo⟩, ⟨q', X', la', sm', r, G, P, PL', DI', T'⟩⟩ := μ
  have hJ0 := hJ
  obtain ⟨⟨⟨⟨o1, o1b⟩, o2, o3, o4⟩, ⟨v1, v2, v3, v4⟩, og, ol, ow⟩, ⟨e1, e2, e3, e4⟩, ⟨a1, a2, a3, a4⟩, hl, hg⟩ := hJ
  dsimp only at o1 o1b o2 o3 o4 v1 v2 v3 v4 og ol ow e1 e2 e3 e4 a1 a2 a3 a4 hg
  subst e1; subst e2; subst e3; subst e4
  unfold R_guess at hR
  try dsimp only at hR
  try dsimp only at hM
  rcases hR with ⟨hz, c1, c2, ⟨hA, hB, hW, hL, hK, hG⟩, hv⟩ | ⟨hz, c1, hs⟩ | ⟨hz, c1, c2, hs⟩
  · rcases hM with ⟨m1, m2, mv, mv2, mL, mK, mG, mz⟩ | ⟨m1, mv, mz⟩ | ⟨m1, m2, mv, mz⟩
    · obtain ⟨⟨⟨b1, b2, b3, b4⟩, ⟨f1, f2, f3, f4⟩, C2, ⟨k1, k2, k3, k4, k5⟩⟩, u2⟩ := u
      obtain ⟨w1, w2, ⟨x1, x2, x3, x4⟩, w4, w5⟩ := v
      try dsimp only at hA; try dsimp only at hB; try dsimp only at hW; try dsimp only at hL; try dsimp only at hK; try dsimp only at hG; try dsimp only at hv; try dsimp only at mv; try dsimp only at mv2; try dsimp only at mL; try dsimp only at mK; try dsimp only at mG; try dsimp only at mz; try dsimp only at c1; try dsimp only at c2; try dsimp only at m1; try dsimp only at m2
      injection hA with g1 g2
      injection g2 with g2 g3
      injection g3 with g3 g4
      injection hB with i1 i2
      injection i2 with i2 i3
      injection i3 with i3 i4
      subst g1; subst g2; subst g3; subst g4; subst i1; subst i2; subst i3; subst i4; subst hW; subst mv; subst mv2
      have hsm := srch_sim (n := b1) (w := b2) (wt := p0.toNat) (q := f1) (q' := q') (rf := (fun p9 j9 => f2 (16 * p9 + j9))) (rf' := (fun p9 j9 => X' (16 * p9 + j9))) (x := (0, PL, DI, zF T 5 0)) (y := (0, PL', DI', zF T' 5 0)) ⟨o1, o1b⟩ (by omega) (v1.le (by omega)) b3 (fun p hp a ha => v2 _ (by omega)) (a1.le (by omega)) (fun p hp a ha => a2 _ (by omega)) rfl ⟨Nat.zero_le _, ol.2.1, fun k h => absurd h (Nat.not_lt_zero _)⟩ ⟨rfl, fun k h => absurd h (Nat.not_lt_zero _), fun k h => absurd h (Nat.not_lt_zero _), fun k h => by simp [zF, h]⟩ b3 (Nat.le_refl _)
      rw [← hL] at hsm
      have hlm := hsm.trans' mL.symm'
      refine ⟨hz, fun _ => ?_, ?_⟩
      · have hall := srch_all (w := b2) (q := f1) (rf := (fun p9 j9 => f2 (16 * p9 + j9))) (x := (0, PL, DI, zF T 5 0)) ⟨o1, o1b⟩ (show 1 ≤ p0.toNat by omega) (v1.le (by omega)) rfl ⟨Nat.zero_le _, ol.2.1, fun k h => absurd h (Nat.not_lt_zero _)⟩ b3 (fun p hp a ha => v2 _ (by omega)) b3 (Nat.le_refl _)
        rw [← hL] at hall
        have hm1 : 1 ≤ k1 := hall.2.2 c2
        have e9 := hlm.1
        dsimp only at e9
        subst e9
        show u2 0 = _
        rw [hv, mz, gss_b (b1 := 0) _ hm1 (Nat.le_refl _), gss_cg (la' := la') (P' := x2) (fun k hk => ⟨hlm.2.1 k hk, by
          have h8 : 0 ≤ k3 k ∧ k3 k < (b3 : Int) := hall.2.1 k hk
          exact ⟨h8.1, by show k3 k < 12; omega⟩⟩) a3 _ (Nat.le_refl _)]
      · exact ⟨⟨⟨⟨o1, o1b⟩, o2, o3, o4⟩, ⟨v1, v2, v3, v4⟩, hG, hK, ⟨by show 1 ≤ p0.toNat; omega, by show p0.toNat ≤ 12; omega⟩⟩, ⟨rfl, rfl, rfl, rfl⟩, ⟨a1, a2, a3, a4⟩, hlm, ⟨mG, mK.2.1, hg.2.2⟩⟩
    · exfalso
      try dsimp only at *
      omega
    · exfalso
      try dsimp only at *
      omega
  · rcases hM with ⟨m1, m2, mv, mv2, mL, mK, mG, mz⟩ | ⟨m1, mv, mz⟩ | ⟨m1, m2, mv, mz⟩
    · exfalso
      try dsimp only at *
      omega
    · subst mv
      exact ⟨hz, fun h9 => absurd h9 (by omega), J_s (J_m hJ0 1 r G P hg.1) hs⟩
    · exfalso
      try dsimp only at *
      omega
  · rcases hM with ⟨m1, m2, mv, mv2, mL, mK, mG, mz⟩ | ⟨m1, mv, mz⟩ | ⟨m1, m2, mv, mz⟩
    · exfalso
      try dsimp only at *
      omega
    · exfalso
      try dsimp only at *
      omega
    · subst mv
      exact ⟨hz, fun h9 => absurd h9 (by omega), J_s (J_m hJ0 2 r G P hg.1) hs⟩
set_option maxHeartbeats 4000000 in
theorem J_found {σ : Sg} {μ : Mg} {p0 b9 z zb : Int} {u : Sg × (Nat → Int64)} {v : Int} (hJ : J σ μ) (hR : R_found σ p0 b9 z u) (hM : (fun z u => ((0 ≤ p0 ∧ p0 < (μ.1.2.2.2.2.2.2 : Int)) ∧ u = 0 ∧ z = if b9 ≠ 0 then μ.2.2.2.2.2.2.2.2.2.1 p0.toNat else μ.2.2.2.2.2.2.2.2.1 p0.toNat) ∨ ((p0 < 0 ∨ (μ.1.2.2.2.2.2.2 : Int) ≤ p0) ∧ u = 1 ∧ z = 0)) zb v) : z = v ∧ (z = 0 → u.2 0 = (iI zb).toInt64) ∧ J u.1 (((v, μ.1.2.1, μ.1.2.2.1, μ.1.2.2.2.1, μ.1.2.2.2.2.1, μ.1.2.2.2.2.2.1, μ.1.2.2.2.2.2.2), (μ.2.1, μ.2.2.1, μ.2.2.2.1, μ.2.2.2.2.1, μ.2.2.2.2.2.1, μ.2.2.2.2.2.2.1, μ.2.2.2.2.2.2.2.1, μ.2.2.2.2.2.2.2.2.1, μ.2.2.2.2.2.2.2.2.2.1, μ.2.2.2.2.2.2.2.2.2.2)) : Mg) := by
  obtain ⟨⟨n, w, rc, sc⟩, ⟨q, X, la, sm⟩, C, ⟨nm, wt, PL, DI, T⟩⟩ := σ
  obtain ⟨⟨cd, n', w', rc', sc', mo, fo⟩, ⟨q', X', la', sm', r, G, P, PL', DI', T'⟩⟩ := μ
  have hJ0 := hJ
  obtain ⟨⟨⟨⟨o1, o1b⟩, o2, o3, o4⟩, ⟨v1, v2, v3, v4⟩, og, ol, ow⟩, ⟨e1, e2, e3, e4⟩, ⟨a1, a2, a3, a4⟩, hl, hg⟩ := hJ
  dsimp only at o1 o1b o2 o3 o4 v1 v2 v3 v4 og ol ow e1 e2 e3 e4 a1 a2 a3 a4 hg
  subst e1; subst e2; subst e3; subst e4
  unfold R_found at hR
  try dsimp only at hR
  try dsimp only at hM
  rcases hR with ⟨hz, c1, hu, hv⟩ | ⟨hz, c1, hs⟩
  · rcases hM with ⟨m1, mv, mz⟩ | ⟨m1, mv, mz⟩
    · obtain ⟨u1, u2⟩ := u
      try dsimp only at hu; try dsimp only at hv; try dsimp only at c1
      subst hu; subst mv
      refine ⟨hz, fun _ => ?_, J_m hJ0 0 r G P hg.1⟩
      have e9 := hl.1
      have e8 := hl.2.1 p0.toNat (by show p0.toNat < nm; omega)
      have e7 := hl.2.2.1 p0.toNat (by show p0.toNat < nm; omega)
      dsimp only [sL, mL] at e8 e7
      show u2 0 = _
      rw [hv, mz, e8, e7]
    · exfalso
      have e9 := hl.1
      dsimp only [sL, mL] at e9
      try dsimp only at c1; try dsimp only at m1
      omega
  · rcases hM with ⟨m1, mv, mz⟩ | ⟨m1, mv, mz⟩
    · exfalso
      have e9 := hl.1
      dsimp only [sL, mL] at e9
      try dsimp only at c1; try dsimp only at m1
      omega
    · subst mv
      exact ⟨hz, fun h9 => absurd h9 (by omega), J_s (J_m hJ0 1 r G P hg.1) hs⟩
set_option maxHeartbeats 4000000 in
theorem J_count {σ : Sg} {μ : Mg} {p0 z zb : Int} {u : Sg × (Nat → Int64)} {v : Int} (hJ : J σ μ) (hR : R_count σ p0 z u) (hM : (fun z u => ((0 ≤ p0 ∧ p0 ≤ 4) ∧ u = 0 ∧ z = μ.2.2.2.2.2.2.2.2.2.2 p0.toNat) ∨ ((p0 < 0 ∨ 4 < p0) ∧ u = 1 ∧ z = 0)) zb v) : z = v ∧ (z = 0 → u.2 0 = (iI zb).toInt64) ∧ J u.1 (((v, μ.1.2.1, μ.1.2.2.1, μ.1.2.2.2.1, μ.1.2.2.2.2.1, μ.1.2.2.2.2.2.1, μ.1.2.2.2.2.2.2), (μ.2.1, μ.2.2.1, μ.2.2.2.1, μ.2.2.2.2.1, μ.2.2.2.2.2.1, μ.2.2.2.2.2.2.1, μ.2.2.2.2.2.2.2.1, μ.2.2.2.2.2.2.2.2.1, μ.2.2.2.2.2.2.2.2.2.1, μ.2.2.2.2.2.2.2.2.2.2)) : Mg) := by
  obtain ⟨⟨n, w, rc, sc⟩, ⟨q, X, la, sm⟩, C, ⟨nm, wt, PL, DI, T⟩⟩ := σ
  obtain ⟨⟨cd, n', w', rc', sc', mo, fo⟩, ⟨q', X', la', sm', r, G, P, PL', DI', T'⟩⟩ := μ
  have hJ0 := hJ
  obtain ⟨⟨⟨⟨o1, o1b⟩, o2, o3, o4⟩, ⟨v1, v2, v3, v4⟩, og, ol, ow⟩, ⟨e1, e2, e3, e4⟩, ⟨a1, a2, a3, a4⟩, hl, hg⟩ := hJ
  dsimp only at o1 o1b o2 o3 o4 v1 v2 v3 v4 og ol ow e1 e2 e3 e4 a1 a2 a3 a4 hg
  subst e1; subst e2; subst e3; subst e4
  unfold R_count at hR
  try dsimp only at hR
  try dsimp only at hM
  rcases hR with ⟨hz, c1, hu, hv⟩ | ⟨hz, c1, hs⟩
  · rcases hM with ⟨m1, mv, mz⟩ | ⟨m1, mv, mz⟩
    · obtain ⟨u1, u2⟩ := u
      try dsimp only at hu; try dsimp only at hv
      subst hu; subst mv
      refine ⟨hz, fun _ => ?_, J_m hJ0 0 r G P hg.1⟩
      have e8 := hl.2.2.2 p0.toNat (by omega)
      dsimp only [sL, mL] at e8
      show u2 0 = _
      rw [hv, mz, e8]
    · exfalso
      try dsimp only at *
      omega
  · rcases hM with ⟨m1, mv, mz⟩ | ⟨m1, mv, mz⟩
    · exfalso
      try dsimp only at *
      omega
    · subst mv
      exact ⟨hz, fun h9 => absurd h9 (by omega), J_s (J_m hJ0 1 r G P hg.1) hs⟩
set_option maxHeartbeats 4000000 in
theorem J_push {σ : Sg} {μ : Mg} {p0 z zb : Int} {u : Sg × (Nat → Int64)} {v : (Int × (Nat → Int) × Nat)} (hJ : J σ μ) (hR : R_push σ p0 z u) (hM : (fun z u => ((-1000 ≤ p0 ∧ p0 ≤ 1000) ∧ μ.1.2.2.2.2.1 < 64 ∧ u = (0, zU μ.2.2.2.2.1 μ.1.2.2.2.2.1 p0, μ.1.2.2.2.2.1 + 1) ∧ z = ((μ.1.2.2.2.2.1 + 1 : Nat) : Int)) ∨ ((p0 < -1000 ∨ 1000 < p0) ∧ u = (1, μ.2.2.2.2.1, μ.1.2.2.2.2.1) ∧ z = 0) ∨ ((-1000 ≤ p0 ∧ p0 ≤ 1000) ∧ μ.1.2.2.2.2.1 = 64 ∧ u = (2, μ.2.2.2.2.1, μ.1.2.2.2.2.1) ∧ z = 0)) zb v) : z = v.1 ∧ (z = 0 → u.2 0 = (iI zb).toInt64) ∧ J u.1 (((v.1, μ.1.2.1, μ.1.2.2.1, μ.1.2.2.2.1, v.2.2, μ.1.2.2.2.2.2.1, μ.1.2.2.2.2.2.2), (μ.2.1, μ.2.2.1, μ.2.2.2.1, v.2.1, μ.2.2.2.2.2.1, μ.2.2.2.2.2.2.1, μ.2.2.2.2.2.2.2.1, μ.2.2.2.2.2.2.2.2.1, μ.2.2.2.2.2.2.2.2.2.1, μ.2.2.2.2.2.2.2.2.2.2)) : Mg) := by
  obtain ⟨⟨n, w, rc, sc⟩, ⟨q, X, la, sm⟩, C, ⟨nm, wt, PL, DI, T⟩⟩ := σ
  obtain ⟨⟨cd, n', w', rc', sc', mo, fo⟩, ⟨q', X', la', sm', r, G, P, PL', DI', T'⟩⟩ := μ
  have hJ0 := hJ
  obtain ⟨⟨⟨⟨o1, o1b⟩, o2, o3, o4⟩, ⟨v1, v2, v3, v4⟩, og, ol, ow⟩, ⟨e1, e2, e3, e4⟩, ⟨a1, a2, a3, a4⟩, hl, hg⟩ := hJ
  dsimp only at o1 o1b o2 o3 o4 v1 v2 v3 v4 og ol ow e1 e2 e3 e4 a1 a2 a3 a4 hg
  subst e1; subst e2; subst e3; subst e4
  unfold R_push at hR
  try dsimp only at hR
  try dsimp only at hM
  rcases hR with ⟨hz, c1, c2, hu, hv⟩ | ⟨hz, c1, hs⟩ | ⟨hz, c1, c2, hs⟩
  · rcases hM with ⟨m1, m2, mv, mz⟩ | ⟨m1, mv, mz⟩ | ⟨m1, m2, mv, mz⟩
    · obtain ⟨u1, u2⟩ := u
      try dsimp only at hu; try dsimp only at hv; try dsimp only at c2
      subst hu; subst mv
      refine ⟨hz, fun _ => ?_, ⟨⟨⟨o1, o1b⟩, o2, o3, ?_⟩, ⟨v1, v2, v3, vals_u v4 c1⟩, og, ol, ow⟩, ⟨rfl, rfl, rfl, rfl⟩, ⟨a1, a2, a3, agr_u a4 _ _⟩, hl, hg⟩
      · show u2 0 = _
        rw [hv, mz]
      · show _ + 1 ≤ 64; omega
    · exfalso
      try dsimp only at *
      omega
    · exfalso
      try dsimp only at *
      omega
  · rcases hM with ⟨m1, m2, mv, mz⟩ | ⟨m1, mv, mz⟩ | ⟨m1, m2, mv, mz⟩
    · exfalso
      try dsimp only at *
      omega
    · subst mv
      exact ⟨hz, fun h9 => absurd h9 (by omega), J_s (J_m hJ0 1 r G P hg.1) hs⟩
    · exfalso
      try dsimp only at *
      omega
  · rcases hM with ⟨m1, m2, mv, mz⟩ | ⟨m1, mv, mz⟩ | ⟨m1, m2, mv, mz⟩
    · exfalso
      try dsimp only at *
      omega
    · exfalso
      try dsimp only at *
      omega
    · subst mv
      exact ⟨hz, fun h9 => absurd h9 (by omega), J_s (J_m hJ0 2 r G P hg.1) hs⟩
set_option maxHeartbeats 4000000 in
theorem J_shift {σ : Sg} {μ : Mg} {p0 z : Int} {u : Sg × (Nat → Int64)} {v : (Int × (Nat → Int) × Nat)} (hJ : J σ μ) (hR : R_shift σ p0 z u) (hM : (fun u => ((0 ≤ p0 ∧ p0 ≤ (μ.1.2.2.2.2.1 : Int)) ∧ u = (0, zC μ.2.2.2.2.1 μ.2.2.2.2.1 p0.toNat 0 (μ.1.2.2.2.2.1 - p0.toNat), μ.1.2.2.2.2.1 - p0.toNat)) ∨ ((p0 < 0 ∨ (μ.1.2.2.2.2.1 : Int) < p0) ∧ u = (1, μ.2.2.2.2.1, μ.1.2.2.2.2.1))) v) : z = v.1 ∧ J u.1 (((v.1, μ.1.2.1, μ.1.2.2.1, μ.1.2.2.2.1, v.2.2, μ.1.2.2.2.2.2.1, μ.1.2.2.2.2.2.2), (μ.2.1, μ.2.2.1, μ.2.2.2.1, v.2.1, μ.2.2.2.2.2.1, μ.2.2.2.2.2.2.1, μ.2.2.2.2.2.2.2.1, μ.2.2.2.2.2.2.2.2.1, μ.2.2.2.2.2.2.2.2.2.1, μ.2.2.2.2.2.2.2.2.2.2)) : Mg) := by
  obtain ⟨⟨n, w, rc, sc⟩, ⟨q, X, la, sm⟩, C, ⟨nm, wt, PL, DI, T⟩⟩ := σ
  obtain ⟨⟨cd, n', w', rc', sc', mo, fo⟩, ⟨q', X', la', sm', r, G, P, PL', DI', T'⟩⟩ := μ
  have hJ0 := hJ
  obtain ⟨⟨⟨⟨o1, o1b⟩, o2, o3, o4⟩, ⟨v1, v2, v3, v4⟩, og, ol, ow⟩, ⟨e1, e2, e3, e4⟩, ⟨a1, a2, a3, a4⟩, hl, hg⟩ := hJ
  dsimp only at o1 o1b o2 o3 o4 v1 v2 v3 v4 og ol ow e1 e2 e3 e4 a1 a2 a3 a4 hg
  subst e1; subst e2; subst e3; subst e4
  unfold R_shift at hR
  try dsimp only at hR
  try dsimp only at hM
  rcases hR with ⟨hz, c1, hu⟩ | ⟨hz, c1, hs⟩
  · rcases hM with ⟨m1, mv⟩ | ⟨m1, mv⟩
    · obtain ⟨u1, u2⟩ := u
      try dsimp only at hu; try dsimp only at c1
      subst hu; subst mv
      refine ⟨hz, ⟨⟨⟨o1, o1b⟩, o2, o3, ?_⟩, ⟨v1, v2, v3, vals_C v4 v4 (by omega)⟩, og, ol, ow⟩, ⟨rfl, rfl, rfl, rfl⟩, ⟨a1, a2, a3, agr_C a4 a4 (by omega)⟩, hl, hg⟩
      show _ - p0.toNat ≤ 64; omega
    · exfalso
      try dsimp only at *
      omega
  · rcases hM with ⟨m1, mv⟩ | ⟨m1, mv⟩
    · exfalso
      try dsimp only at *
      omega
    · subst mv
      exact ⟨hz, J_s (J_m hJ0 1 r G P hg.1) hs⟩
