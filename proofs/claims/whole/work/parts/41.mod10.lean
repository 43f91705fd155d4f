theorem div_z {x g : Int64} (hg : 0 < g.toInt) (hd : g.toInt ∣ x.toInt) : x / g = 0 ↔ x = 0 := by
  have hn : g ≠ -1 := fun z => by rw [z] at hg; exact absurd hg (by decide)
  rw [← Int64.toInt_inj, ← Int64.toInt_inj, Int64.toInt_div_of_ne_right _ _ hn, show (0 : Int64).toInt = 0 from rfl]
  obtain ⟨k, hk⟩ := hd
  rw [hk, Int.mul_tdiv_cancel_left _ (by omega)]
  constructor
  · intro z; rw [z]; simp
  · intro z
    rcases Int.mul_eq_zero.mp z with q | q
    · omega
    · exact q
theorem shr_z {B S : LT} (hB : Ph 1125899906842624 40 B) (hi0 : ¬ B.1 = 0) (hS : shrO B = S) : ¬ S.1 = 0 ∧ (S.2.1 = 0 ↔ B.2.1 = 0) ∧ (S.2.2.1 = 0 ↔ B.2.2.1 = 0) ∧ (S.2.2.2.1 = 0 ↔ B.2.2.2.1 = 0) := by
  obtain ⟨bq, bu, bv⟩ := hB.le
  have bi1 := hB.1
  have bi2 := hB.2.1
  have g1 := gcdO_facts (a := B.1) (b := B.2.1) (M := 1125899906842624) (by omega) (by omega) (by decide)
  have g2 := gcdO_facts (a := B.2.2.1) (b := B.2.2.2.1) (M := 1125899906842624) (by omega) (by omega) (by decide)
  obtain ⟨ga, hga⟩ : ∃ x, gcdO B.1 B.2.1 = x := ⟨_, rfl⟩
  obtain ⟨gb, hgb⟩ : ∃ x, gcdO B.2.2.1 B.2.2.2.1 = x := ⟨_, rfl⟩
  rw [hga] at g1
  rw [hgb] at g2
  have g3 := gcdO_facts (a := ga) (b := gb) (M := 1125899906842624) (by omega) (by omega) (by decide)
  obtain ⟨g9, hg9⟩ : ∃ x, gcdO ga gb = x := ⟨_, rfl⟩
  rw [hg9] at g3
  have hga0 : ¬ ga = 0 := fun z => by
    have := g1.2.2.2.2 (Or.inl hi0)
    rw [z] at this
    exact absurd this (by decide)
  have hpos := g3.2.2.2.2 (Or.inl hga0)
  have hSe : S = (B.1 / g9, B.2.1 / g9, B.2.2.1 / g9, B.2.2.2.1 / g9, B.2.2.2.2) := hS.symm.trans (shr_div (by rw [hga, hgb]; exact hg9) hpos)
  rw [hSe]
  exact ⟨fun z => hi0 ((div_z hpos (Int.dvd_trans g3.2.2.1 g1.2.2.1)).mp z), div_z hpos (Int.dvd_trans g3.2.2.1 g1.2.2.2.1), div_z hpos (Int.dvd_trans g3.2.2.2.1 g2.2.2.1), div_z hpos (Int.dvd_trans g3.2.2.2.1 g2.2.2.2.1)⟩
theorem fst_neg {S : LT} (h : fstO S < 0) : 0 ≤ sqO S ∧ ¬ frO S.1 (-3037000499) 3037000499 = 0 := by
  unfold fstO at h
  by_cases k1 : ovrO S.2.1 = 0
  · rw [if_pos k1] at h
    by_cases k2 : ovrO S.2.2.1 = 0
    · rw [if_pos k2] at h
      by_cases k3 : ovrO S.2.2.2.1 = 0
      · rw [if_pos k3] at h
        by_cases k4 : 9223372036854775807 - S.2.1 * S.2.1 < S.2.2.1 * S.2.2.1
        · rw [if_pos k4] at h; exact absurd h (by decide)
        · rw [if_neg k4] at h
          by_cases k5 : 9223372036854775807 - S.2.1 * S.2.1 - S.2.2.1 * S.2.2.1 < S.2.2.2.1 * S.2.2.2.1
          · rw [if_pos k5] at h; exact absurd h (by decide)
          · rw [if_neg k5] at h
            by_cases k6 : ovrO S.1 = 0
            · have j1 := (ovr_fr _).mp k1
              have j2 := (ovr_fr _).mp k2
              have j3 := (ovr_fr _).mp k3
              have l1 : 0 ≤ S.2.1 * S.2.1 + S.2.2.1 * S.2.2.1 := by
                by_cases z : 0 ≤ S.2.1 * S.2.1 + S.2.2.1 * S.2.2.1
                · exact z
                · exact absurd ((over3 j1 j2).mpr z) k4
              refine ⟨?_, (ovr_fr _).mp k6⟩
              by_cases z : 0 ≤ S.2.1 * S.2.1 + S.2.2.1 * S.2.2.1 + S.2.2.2.1 * S.2.2.2.1
              · exact z
              · exact absurd ((over4 j1 j2 j3 l1).mpr z) k5
            · rw [if_neg k6] at h; exact absurd h (by decide)
      · rw [if_neg k3] at h; exact absurd h (by decide)
    · rw [if_neg k2] at h; exact absurd h (by decide)
  · rw [if_neg k1] at h; exact absurd h (by decide)
theorem c_fdA {G : Cx} (d : Nat) {μ : Hp} {B S : LT} {f g : Nat → Int32} {m un lr mr hr le at9 fa op tr sg hm hi : Int32} {co wh : Int64} (h60 : μ 60 = some (modC m co wh un lr mr hr le at9 fa op tr sg hm hi)) (h63 : μ 63 = some (mlg B)) (h78 : μ 78 = some (arI 4 f)) (h79 : μ 79 = some (arI 4 g)) (hB : Ph 1125899906842624 40 B) (hi0 : ¬ B.1 = 0) (hS : shrO B = S) (hf : fstO S < 0) : Ct G (d + 1) 0 0 M_X7_findsDegree [.ref 60] μ (Rt (some (.int 1)) (up μ 60 (modC m (sqO S) (S.1 * S.1) un lr mr hr le at9 fa op tr sg hm hi))) :=
  Ct.post (c_X7_findsDegree d h60 h63 h78 h79 hB hi0 hS) (fun r m h => h.elim (fun z => z.2) (fun z => absurd hf z.1))
theorem c_fdB {G : Cx} (d : Nat) {μ : Hp} {B S : LT} {f g : Nat → Int32} {m un lr mr hr le at9 fa op tr sg hm hi : Int32} {co wh : Int64} (h60 : μ 60 = some (modC m co wh un lr mr hr le at9 fa op tr sg hm hi)) (h63 : μ 63 = some (mlg B)) (h78 : μ 78 = some (arI 4 f)) (h79 : μ 79 = some (arI 4 g)) (hB : Ph 1125899906842624 40 B) (hi0 : ¬ B.1 = 0) (hS : shrO B = S) (hf : ¬ fstO S < 0) : Ct G (d + 1) 0 0 M_X7_findsDegree [.ref 60] μ (Rt (some (.int 0)) (up (up (up (up μ 60 (modC m co wh un lr mr hr le at9 fa op 0 sg hm hi)) 78 (arI 4 (upd f 0 4))) 79 (arI 4 (upd g 0 (fstO S)))) 60 (modC m co wh un lr mr hr le at9 fa op (nI 1) sg hm hi))) :=
  Ct.post (c_X7_findsDegree d h60 h63 h78 h79 hB hi0 hS) (fun r m h => h.elim (fun z => absurd z.1 hf) (fun z => z.2))
