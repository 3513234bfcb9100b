/-! 43: the cases keep the invariant (plan43.py) -/
theorem LkG_eq {S S' : xS} (hA : S' 34 = S 34) (h4 : S' 4 = S 4) (h5 : S' 5 = S 5) (h11 : S' 11 = S 11) (h7 : S' 7 = S 7) (h13 : S' 13 = S 13) (h14 : S' 14 = S 14) (h15 : S' 15 = S 15) (h16 : S' 16 = S 16) (h : Lk 34 LG S) : Lk 34 LG S' := Lk_eq hA (by
  intro p hp
  have q : p = (0, 4) ∨ p = (1, 5) ∨ p = (2, 11) ∨ p = (3, 7) ∨ p = (4, 13) ∨ p = (5, 14) ∨ p = (6, 15) ∨ p = (7, 16) := by simpa [LG] using hp
  rcases q with rfl | rfl | rfl | rfl | rfl | rfl | rfl | rfl <;> assumption) h
theorem LkH_eq {S S' : xS} (hA : S' 35 = S 35) (h18 : S' 18 = S 18) (h19 : S' 19 = S 19) (h20 : S' 20 = S 20) (h21 : S' 21 = S 21) (h : Lk 35 LH S) : Lk 35 LH S' := Lk_eq hA (by
  intro p hp
  have q : p = (0, 18) ∨ p = (1, 19) ∨ p = (2, 20) ∨ p = (3, 21) := by simpa [LH] using hp
  rcases q with rfl | rfl | rfl | rfl <;> assumption) h
theorem Lk_bnd {A : Nat} {l : List (Nat × Nat)} {S : xS} {c f k : Nat} (h : Lk A l S) (hcf : (c, f) ∈ l) (hk : k < 8) : S A 0 (nI (8 * k + c)) = S f 0 (nI k) := h c f hcf k hk
theorem inv_shape {c t : Nat} {S : xS} {kk : Nat} {A D : Int32} (h : Inv c t S) (hk : kk < 8) (hA : 1 ≤ A.toInt ∧ A.toInt ≤ 100) (hD : 1 ≤ D.toInt ∧ D.toInt ≤ 1000) : Inv (c) t (xu (xu (xu (xu S 34 0 (nI (8 * kk + 0)) A) 34 0 (nI (8 * kk + 1)) D) 4 0 (nI kk) A) 5 0 (nI kk) D) := by
  obtain ⟨⟨hB, hN, hK, hS⟩, ⟨hT, hE⟩, ⟨hG, hH⟩, hZ, hP, hW⟩ := h
  refine ⟨⟨?_, ?_, ?_, ?_⟩, ⟨?_, ?_⟩, ⟨?_, ?_⟩, ?_, ?_, ?_⟩
  · exact Bits_eq (by (repeat rw [xu_nf (by decide)])) (by (repeat rw [xu_nf (by decide)])) (by (repeat rw [xu_nf (by decide)])) hB
  · exact Bnd_5 (Bnd_4 (Bnd_eq (by (repeat rw [xu_nf (by decide)])) (by (repeat rw [xu_nf (by decide)])) (by (repeat rw [xu_nf (by decide)])) (by (repeat rw [xu_nf (by decide)])) hN) (in8 hk) hA) (in8 hk) hD
  · exact KWc_eq (by (repeat rw [xu_nf (by decide)])) (by (repeat rw [xu_nf (by decide)])) (by (repeat rw [xu_nf (by decide)])) (by (repeat rw [xu_nf (by decide)])) (by (repeat rw [xu_nf (by decide)])) (by (repeat rw [xu_nf (by decide)])) hK
  · exact Src_eq (by (repeat rw [xu_nf (by decide)])) hS
  · exact Tm_eq (by (repeat rw [xu_nf (by decide)])) (by (repeat rw [xu_nf (by decide)])) hT
  · exact Net_eq (by (repeat rw [xu_nf (by decide)])) (by (repeat rw [xu_nf (by decide)])) (by (repeat rw [xu_nf (by decide)])) (by (repeat rw [xu_nf (by decide)])) (by (repeat rw [xu_nf (by decide)])) (by (repeat rw [xu_nf (by decide)])) hE
  · rw [xu_comm (f := 34) (f' := 4) (by decide)]
    exact Lk_put LGb (c := 1) (f := 5) (by decide) hk rfl (Lk_put LGb (c := 0) (f := 4) (by decide) hk rfl hG)
  · exact LkH_eq (by (repeat rw [xu_nf (by decide)])) (by (repeat rw [xu_nf (by decide)])) (by (repeat rw [xu_nf (by decide)])) (by (repeat rw [xu_nf (by decide)])) (by (repeat rw [xu_nf (by decide)])) hH
  · exact Lz_eq (by (repeat rw [xu_nf (by decide)])) (by (repeat rw [xu_nf (by decide)])) hZ
  · exact Lp_eq (by (repeat rw [xu_nf (by decide)])) (by (repeat rw [xu_nf (by decide)])) (by (repeat rw [xu_nf (by decide)])) hP
  · exact Lw_eq (by (repeat rw [xu_nf (by decide)])) (by (repeat rw [xu_nf (by decide)])) hW
theorem inv_gauge {c t : Nat} {S : xS} {kk : Nat} {A : Int32} (h : Inv c t S) (hk : kk < 8) (hA : 1 ≤ A.toInt ∧ A.toInt ≤ 50) : Inv (c) t (xu (xu S 34 0 (nI (8 * kk + 2)) A) 11 0 (nI kk) A) := by
  obtain ⟨⟨hB, hN, hK, hS⟩, ⟨hT, hE⟩, ⟨hG, hH⟩, hZ, hP, hW⟩ := h
  refine ⟨⟨?_, ?_, ?_, ?_⟩, ⟨?_, ?_⟩, ⟨?_, ?_⟩, ?_, ?_, ?_⟩
  · exact Bits_eq (by (repeat rw [xu_nf (by decide)])) (by (repeat rw [xu_nf (by decide)])) (by (repeat rw [xu_nf (by decide)])) hB
  · exact Bnd_11 (Bnd_eq (by (repeat rw [xu_nf (by decide)])) (by (repeat rw [xu_nf (by decide)])) (by (repeat rw [xu_nf (by decide)])) (by (repeat rw [xu_nf (by decide)])) hN) (in8 hk) hA
  · exact KWc_eq (by (repeat rw [xu_nf (by decide)])) (by (repeat rw [xu_nf (by decide)])) (by (repeat rw [xu_nf (by decide)])) (by (repeat rw [xu_nf (by decide)])) (by (repeat rw [xu_nf (by decide)])) (by (repeat rw [xu_nf (by decide)])) hK
  · exact Src_eq (by (repeat rw [xu_nf (by decide)])) hS
  · exact Tm_eq (by (repeat rw [xu_nf (by decide)])) (by (repeat rw [xu_nf (by decide)])) hT
  · exact Net_eq (by (repeat rw [xu_nf (by decide)])) (by (repeat rw [xu_nf (by decide)])) (by (repeat rw [xu_nf (by decide)])) (by (repeat rw [xu_nf (by decide)])) (by (repeat rw [xu_nf (by decide)])) (by (repeat rw [xu_nf (by decide)])) hE
  · exact Lk_put LGb (c := 2) (f := 11) (by decide) hk rfl hG
  · exact LkH_eq (by (repeat rw [xu_nf (by decide)])) (by (repeat rw [xu_nf (by decide)])) (by (repeat rw [xu_nf (by decide)])) (by (repeat rw [xu_nf (by decide)])) (by (repeat rw [xu_nf (by decide)])) hH
  · exact Lz_eq (by (repeat rw [xu_nf (by decide)])) (by (repeat rw [xu_nf (by decide)])) hZ
  · exact Lp_eq (by (repeat rw [xu_nf (by decide)])) (by (repeat rw [xu_nf (by decide)])) (by (repeat rw [xu_nf (by decide)])) hP
  · exact Lw_eq (by (repeat rw [xu_nf (by decide)])) (by (repeat rw [xu_nf (by decide)])) hW
theorem inv_source {c t : Nat} {S : xS} {kk : Nat} {A : Int32} (h : Inv c t S) (hk : kk < 8) (hA : 0 ≤ A.toInt ∧ A.toInt ≤ 1000) : Inv (c) t (xu (xu S 39 0 (0 : Int32) A) 1 0 (nI 7) A) := by
  obtain ⟨⟨hB, hN, hK, hS⟩, ⟨hT, hE⟩, ⟨hG, hH⟩, hZ, hP, hW⟩ := h
  refine ⟨⟨?_, ?_, ?_, ?_⟩, ⟨?_, ?_⟩, ⟨?_, ?_⟩, ?_, ?_, ?_⟩
  · exact Bits_eq (by (repeat rw [xu_nf (by decide)])) (by (repeat rw [xu_nf (by decide)])) (by (repeat rw [xu_nf (by decide)])) hB
  · exact Bnd_eq (by (repeat rw [xu_nf (by decide)])) (by (repeat rw [xu_nf (by decide)])) (by (repeat rw [xu_nf (by decide)])) (by (repeat rw [xu_nf (by decide)])) hN
  · exact KWc_eq (by (repeat rw [xu_nf (by decide)])) (by (repeat rw [xu_nf (by decide)])) (by (repeat rw [xu_nf (by decide)])) (by (repeat rw [xu_nf (by decide)])) (by (repeat rw [xu_nf (by decide)])) (by (repeat rw [xu_nf (by decide)])) hK
  · unfold Src
    rw [xu_same]
    exact hA
  · exact Tm_eq (by (repeat rw [xu_nf (by decide)])) (by (repeat rw [xu_nf (by decide)])) hT
  · exact Net_eq (by (repeat rw [xu_nf (by decide)])) (by (repeat rw [xu_nf (by decide)])) (by (repeat rw [xu_nf (by decide)])) (by (repeat rw [xu_nf (by decide)])) (by (repeat rw [xu_nf (by decide)])) (by (repeat rw [xu_nf (by decide)])) hE
  · exact LkG_eq (by (repeat rw [xu_nf (by decide)])) (by (repeat rw [xu_nf (by decide)])) (by (repeat rw [xu_nf (by decide)])) (by (repeat rw [xu_nf (by decide)])) (by (repeat rw [xu_nf (by decide)])) (by (repeat rw [xu_nf (by decide)])) (by (repeat rw [xu_nf (by decide)])) (by (repeat rw [xu_nf (by decide)])) (by (repeat rw [xu_nf (by decide)])) hG
  · exact LkH_eq (by (repeat rw [xu_nf (by decide)])) (by (repeat rw [xu_nf (by decide)])) (by (repeat rw [xu_nf (by decide)])) (by (repeat rw [xu_nf (by decide)])) (by (repeat rw [xu_nf (by decide)])) hH
  · exact Lz_eq (by (repeat rw [xu_nf (by decide)])) (by (repeat rw [xu_nf (by decide)])) hZ
  · refine ⟨?_, ?_, ?_⟩
    · rw [xu_same, xu_ne (by decide), xu_same]
    · rw [xu_ne (by decide), xu_ni (by decide), xu_ne (by decide), xu_ne (by decide)]; exact hP.2.1
    · rw [xu_ne (by decide), xu_ni (by decide), xu_ne (by decide), xu_ne (by decide)]; exact hP.2.2
  · exact Lw_eq (by (repeat rw [xu_nf (by decide)])) (by (repeat rw [xu_nf (by decide)])) hW
theorem inv_rain {c t : Nat} {S : xS} {kk : Nat} {A : Int32} (h : Inv c t S) (hk : kk < 8) (hA : 1 ≤ A.toInt ∧ A.toInt ≤ 10000) (hc : c < 90) (ht : t ≤ 1350) : Inv (c + 1) t (xu (xu S 34 0 (nI (8 * kk + 3)) (S 34 0 (nI (8 * kk + 3)) + A)) 7 0 (nI kk) (S 7 0 (nI kk) + A)) := by
  obtain ⟨⟨hB, hN, hK, hS⟩, ⟨hT, hE⟩, ⟨hG, hH⟩, hZ, hP, hW⟩ := h
  refine ⟨⟨?_, ?_, ?_, ?_⟩, ⟨?_, ?_⟩, ⟨?_, ?_⟩, ?_, ?_, ?_⟩
  · exact Bits_eq (by (repeat rw [xu_nf (by decide)])) (by (repeat rw [xu_nf (by decide)])) (by (repeat rw [xu_nf (by decide)])) hB
  · exact Bnd_eq (by (repeat rw [xu_nf (by decide)])) (by (repeat rw [xu_nf (by decide)])) (by (repeat rw [xu_nf (by decide)])) (by (repeat rw [xu_nf (by decide)])) hN
  · obtain ⟨⟨k1, k2⟩, k3⟩ := hK
    obtain ⟨⟨t1, t2⟩, -⟩ := hT
    have p1 := sum8_le (fun j hj => (k1 j hj).2) hk
    have p2 := sum8_pos (fun j hj => (k1 j hj).1)
    have p3 := (k1 kk hk).2
    have hcl : cld S kk = (S 7 0 (nI kk)).toInt := rfl
    have ec : ∀ j, j < 8 → cld (xu (xu S 34 0 (nI (8 * kk + 3)) (S 34 0 (nI (8 * kk + 3)) + A)) 7 0 (nI kk) (S 7 0 (nI kk) + A)) j = if j = kk then cld S kk + A.toInt else cld S j := fun j hj => by
      show ((xu (xu S 34 0 (nI (8 * kk + 3)) (S 34 0 (nI (8 * kk + 3)) + A)) 7 0 (nI kk) (S 7 0 (nI kk) + A)) 7 0 (nI j)).toInt = _
      rw [xrow_nI hk hj]
      split
      · rw [xtadd (by omega) (by omega), hcl]
      · rw [xu_ne (by decide)]; rfl
    have ev : vol (xu (xu S 34 0 (nI (8 * kk + 3)) (S 34 0 (nI (8 * kk + 3)) + A)) 7 0 (nI kk) (S 7 0 (nI kk) + A)) = vol S := by unfold vol; (repeat rw [xu_nf (by decide)])
    have et : clk (xu (xu S 34 0 (nI (8 * kk + 3)) (S 34 0 (nI (8 * kk + 3)) + A)) 7 0 (nI kk) (S 7 0 (nI kk) + A)) = clk S := clk_eq (by (repeat rw [xu_nf (by decide)]))
    refine ⟨⟨fun j hj => ⟨by rw [ev]; exact (k1 j hj).1, ?_⟩, ?_⟩, ?_⟩
    · rw [ec j hj]
      split
      · omega
      · exact (k1 j hj).2
    · rw [ev, et, sum8_cong ec, sum8_upd _ _ hk]
      omega
    · intro j hj
      have e0 : inn (xu (xu S 34 0 (nI (8 * kk + 3)) (S 34 0 (nI (8 * kk + 3)) + A)) 7 0 (nI kk) (S 7 0 (nI kk) + A)) j = inn S j := by unfold inn; (repeat rw [xu_nf (by decide)])
      rw [e0]
      (repeat rw [xu_nf (by decide)])
      exact k3 j hj
  · exact Src_eq (by (repeat rw [xu_nf (by decide)])) hS
  · exact Tm_eq (by (repeat rw [xu_nf (by decide)])) (by (repeat rw [xu_nf (by decide)])) hT
  · exact Net_eq (by (repeat rw [xu_nf (by decide)])) (by (repeat rw [xu_nf (by decide)])) (by (repeat rw [xu_nf (by decide)])) (by (repeat rw [xu_nf (by decide)])) (by (repeat rw [xu_nf (by decide)])) (by (repeat rw [xu_nf (by decide)])) hE
  · exact Lk_put LGb (c := 3) (f := 7) (by decide) hk (by rw [hG 3 7 (by decide) kk hk]) hG
  · exact LkH_eq (by (repeat rw [xu_nf (by decide)])) (by (repeat rw [xu_nf (by decide)])) (by (repeat rw [xu_nf (by decide)])) (by (repeat rw [xu_nf (by decide)])) (by (repeat rw [xu_nf (by decide)])) hH
  · exact Lz_eq (by (repeat rw [xu_nf (by decide)])) (by (repeat rw [xu_nf (by decide)])) hZ
  · exact Lp_eq (by (repeat rw [xu_nf (by decide)])) (by (repeat rw [xu_nf (by decide)])) (by (repeat rw [xu_nf (by decide)])) hP
  · exact Lw_eq (by (repeat rw [xu_nf (by decide)])) (by (repeat rw [xu_nf (by decide)])) hW
theorem inv_rule {c t : Nat} {S : xS} {kk : Nat} {A B C D : Int32} (h : Inv c t S) (hk : kk < 8) : Inv (c) t (xu (xu (xu (xu (xu (xu (xu (xu S 34 0 (nI (8 * kk + 4)) A) 34 0 (nI (8 * kk + 5)) B) 34 0 (nI (8 * kk + 6)) C) 34 0 (nI (8 * kk + 7)) D) 13 0 (nI kk) A) 14 0 (nI kk) B) 15 0 (nI kk) C) 16 0 (nI kk) D) := by
  obtain ⟨⟨hB, hN, hK, hS⟩, ⟨hT, hE⟩, ⟨hG, hH⟩, hZ, hP, hW⟩ := h
  refine ⟨⟨?_, ?_, ?_, ?_⟩, ⟨?_, ?_⟩, ⟨?_, ?_⟩, ?_, ?_, ?_⟩
  · exact Bits_eq (by (repeat rw [xu_nf (by decide)])) (by (repeat rw [xu_nf (by decide)])) (by (repeat rw [xu_nf (by decide)])) hB
  · exact Bnd_eq (by (repeat rw [xu_nf (by decide)])) (by (repeat rw [xu_nf (by decide)])) (by (repeat rw [xu_nf (by decide)])) (by (repeat rw [xu_nf (by decide)])) hN
  · exact KWc_eq (by (repeat rw [xu_nf (by decide)])) (by (repeat rw [xu_nf (by decide)])) (by (repeat rw [xu_nf (by decide)])) (by (repeat rw [xu_nf (by decide)])) (by (repeat rw [xu_nf (by decide)])) (by (repeat rw [xu_nf (by decide)])) hK
  · exact Src_eq (by (repeat rw [xu_nf (by decide)])) hS
  · exact Tm_eq (by (repeat rw [xu_nf (by decide)])) (by (repeat rw [xu_nf (by decide)])) hT
  · exact Net_eq (by (repeat rw [xu_nf (by decide)])) (by (repeat rw [xu_nf (by decide)])) (by (repeat rw [xu_nf (by decide)])) (by (repeat rw [xu_nf (by decide)])) (by (repeat rw [xu_nf (by decide)])) (by (repeat rw [xu_nf (by decide)])) hE
  · rw [xu_comm (f := 34) (f' := 13) (by decide), xu_comm (f := 34) (f' := 13) (by decide), xu_comm (f := 34) (f' := 13) (by decide), xu_comm (f := 34) (f' := 14) (by decide), xu_comm (f := 34) (f' := 14) (by decide), xu_comm (f := 34) (f' := 15) (by decide)]
    exact Lk_put LGb (c := 7) (f := 16) (by decide) hk rfl (Lk_put LGb (c := 6) (f := 15) (by decide) hk rfl (Lk_put LGb (c := 5) (f := 14) (by decide) hk rfl (Lk_put LGb (c := 4) (f := 13) (by decide) hk rfl hG)))
  · exact LkH_eq (by (repeat rw [xu_nf (by decide)])) (by (repeat rw [xu_nf (by decide)])) (by (repeat rw [xu_nf (by decide)])) (by (repeat rw [xu_nf (by decide)])) (by (repeat rw [xu_nf (by decide)])) hH
  · exact Lz_eq (by (repeat rw [xu_nf (by decide)])) (by (repeat rw [xu_nf (by decide)])) hZ
  · exact Lp_eq (by (repeat rw [xu_nf (by decide)])) (by (repeat rw [xu_nf (by decide)])) (by (repeat rw [xu_nf (by decide)])) hP
  · exact Lw_eq (by (repeat rw [xu_nf (by decide)])) (by (repeat rw [xu_nf (by decide)])) hW
theorem inv_hand {c t : Nat} {S : xS} {kk : Nat} {A : Int32} (h : Inv c t S) (hk : kk < 8) (hA : b01 A) : Inv (c) t (xu (xu S 35 0 (nI (8 * kk + 0)) A) 18 0 (nI kk) A) := by
  obtain ⟨⟨hB, hN, hK, hS⟩, ⟨hT, hE⟩, ⟨hG, hH⟩, hZ, hP, hW⟩ := h
  refine ⟨⟨?_, ?_, ?_, ?_⟩, ⟨?_, ?_⟩, ⟨?_, ?_⟩, ?_, ?_, ?_⟩
  · intro j hj
    obtain ⟨b1, b2, b3⟩ := hB j hj
    refine ⟨?_, ?_, ?_⟩
    · rw [xrow_nI hk hj]
      split
      · exact hA
      · (repeat rw [xu_ne (by decide)])
        exact b1
    · (repeat rw [xu_ne (by decide)])
      exact b2
    · (repeat rw [xu_ne (by decide)])
      exact b3
  · exact Bnd_eq (by (repeat rw [xu_nf (by decide)])) (by (repeat rw [xu_nf (by decide)])) (by (repeat rw [xu_nf (by decide)])) (by (repeat rw [xu_nf (by decide)])) hN
  · exact KWc_eq (by (repeat rw [xu_nf (by decide)])) (by (repeat rw [xu_nf (by decide)])) (by (repeat rw [xu_nf (by decide)])) (by (repeat rw [xu_nf (by decide)])) (by (repeat rw [xu_nf (by decide)])) (by (repeat rw [xu_nf (by decide)])) hK
  · exact Src_eq (by (repeat rw [xu_nf (by decide)])) hS
  · exact Tm_eq (by (repeat rw [xu_nf (by decide)])) (by (repeat rw [xu_nf (by decide)])) hT
  · exact Net_eq (by (repeat rw [xu_nf (by decide)])) (by (repeat rw [xu_nf (by decide)])) (by (repeat rw [xu_nf (by decide)])) (by (repeat rw [xu_nf (by decide)])) (by (repeat rw [xu_nf (by decide)])) (by (repeat rw [xu_nf (by decide)])) hE
  · exact LkG_eq (by (repeat rw [xu_nf (by decide)])) (by (repeat rw [xu_nf (by decide)])) (by (repeat rw [xu_nf (by decide)])) (by (repeat rw [xu_nf (by decide)])) (by (repeat rw [xu_nf (by decide)])) (by (repeat rw [xu_nf (by decide)])) (by (repeat rw [xu_nf (by decide)])) (by (repeat rw [xu_nf (by decide)])) (by (repeat rw [xu_nf (by decide)])) hG
  · exact Lk_put LHb (c := 0) (f := 18) (by decide) hk rfl hH
  · exact Lz_eq (by (repeat rw [xu_nf (by decide)])) (by (repeat rw [xu_nf (by decide)])) hZ
  · exact Lp_eq (by (repeat rw [xu_nf (by decide)])) (by (repeat rw [xu_nf (by decide)])) (by (repeat rw [xu_nf (by decide)])) hP
  · exact Lw_eq (by (repeat rw [xu_nf (by decide)])) (by (repeat rw [xu_nf (by decide)])) hW
theorem inv_open {c t : Nat} {S : xS} {kk : Nat} {A : Int32} (h : Inv c t S) (hk : kk < 8) (hA : 0 ≤ A.toInt ∧ A.toInt ≤ 10) : Inv (c) t (xu S 12 0 (nI kk) A) := by
  obtain ⟨⟨hB, hN, hK, hS⟩, ⟨hT, hE⟩, ⟨hG, hH⟩, hZ, hP, hW⟩ := h
  refine ⟨⟨?_, ?_, ?_, ?_⟩, ⟨?_, ?_⟩, ⟨?_, ?_⟩, ?_, ?_, ?_⟩
  · exact Bits_eq (by (repeat rw [xu_nf (by decide)])) (by (repeat rw [xu_nf (by decide)])) (by (repeat rw [xu_nf (by decide)])) hB
  · exact Bnd_12 hN (in8 hk) hA
  · exact KWc_eq (by (repeat rw [xu_nf (by decide)])) (by (repeat rw [xu_nf (by decide)])) (by (repeat rw [xu_nf (by decide)])) (by (repeat rw [xu_nf (by decide)])) (by (repeat rw [xu_nf (by decide)])) (by (repeat rw [xu_nf (by decide)])) hK
  · exact Src_eq (by (repeat rw [xu_nf (by decide)])) hS
  · exact Tm_eq (by (repeat rw [xu_nf (by decide)])) (by (repeat rw [xu_nf (by decide)])) hT
  · exact Net_eq (by (repeat rw [xu_nf (by decide)])) (by (repeat rw [xu_nf (by decide)])) (by (repeat rw [xu_nf (by decide)])) (by (repeat rw [xu_nf (by decide)])) (by (repeat rw [xu_nf (by decide)])) (by (repeat rw [xu_nf (by decide)])) hE
  · exact LkG_eq (by (repeat rw [xu_nf (by decide)])) (by (repeat rw [xu_nf (by decide)])) (by (repeat rw [xu_nf (by decide)])) (by (repeat rw [xu_nf (by decide)])) (by (repeat rw [xu_nf (by decide)])) (by (repeat rw [xu_nf (by decide)])) (by (repeat rw [xu_nf (by decide)])) (by (repeat rw [xu_nf (by decide)])) (by (repeat rw [xu_nf (by decide)])) hG
  · exact LkH_eq (by (repeat rw [xu_nf (by decide)])) (by (repeat rw [xu_nf (by decide)])) (by (repeat rw [xu_nf (by decide)])) (by (repeat rw [xu_nf (by decide)])) (by (repeat rw [xu_nf (by decide)])) hH
  · exact Lz_eq (by (repeat rw [xu_nf (by decide)])) (by (repeat rw [xu_nf (by decide)])) hZ
  · exact Lp_eq (by (repeat rw [xu_nf (by decide)])) (by (repeat rw [xu_nf (by decide)])) (by (repeat rw [xu_nf (by decide)])) hP
  · exact Lw_eq (by (repeat rw [xu_nf (by decide)])) (by (repeat rw [xu_nf (by decide)])) hW
theorem inv_down {c t : Nat} {S : xS} {kk : Nat} {A : Int32} (h : Inv c t S) (hk : kk < 8) (hA : b01 A) : Inv (c) t (xu (xu S 35 0 (nI (8 * kk + 1)) A) 19 0 (nI kk) A) := by
  obtain ⟨⟨hB, hN, hK, hS⟩, ⟨hT, hE⟩, ⟨hG, hH⟩, hZ, hP, hW⟩ := h
  refine ⟨⟨?_, ?_, ?_, ?_⟩, ⟨?_, ?_⟩, ⟨?_, ?_⟩, ?_, ?_, ?_⟩
  · intro j hj
    obtain ⟨b1, b2, b3⟩ := hB j hj
    refine ⟨?_, ?_, ?_⟩
    · (repeat rw [xu_ne (by decide)])
      exact b1
    · rw [xrow_nI hk hj]
      split
      · exact hA
      · (repeat rw [xu_ne (by decide)])
        exact b2
    · (repeat rw [xu_ne (by decide)])
      exact b3
  · exact Bnd_eq (by (repeat rw [xu_nf (by decide)])) (by (repeat rw [xu_nf (by decide)])) (by (repeat rw [xu_nf (by decide)])) (by (repeat rw [xu_nf (by decide)])) hN
  · exact KWc_eq (by (repeat rw [xu_nf (by decide)])) (by (repeat rw [xu_nf (by decide)])) (by (repeat rw [xu_nf (by decide)])) (by (repeat rw [xu_nf (by decide)])) (by (repeat rw [xu_nf (by decide)])) (by (repeat rw [xu_nf (by decide)])) hK
  · exact Src_eq (by (repeat rw [xu_nf (by decide)])) hS
  · exact Tm_eq (by (repeat rw [xu_nf (by decide)])) (by (repeat rw [xu_nf (by decide)])) hT
  · exact Net_eq (by (repeat rw [xu_nf (by decide)])) (by (repeat rw [xu_nf (by decide)])) (by (repeat rw [xu_nf (by decide)])) (by (repeat rw [xu_nf (by decide)])) (by (repeat rw [xu_nf (by decide)])) (by (repeat rw [xu_nf (by decide)])) hE
  · exact LkG_eq (by (repeat rw [xu_nf (by decide)])) (by (repeat rw [xu_nf (by decide)])) (by (repeat rw [xu_nf (by decide)])) (by (repeat rw [xu_nf (by decide)])) (by (repeat rw [xu_nf (by decide)])) (by (repeat rw [xu_nf (by decide)])) (by (repeat rw [xu_nf (by decide)])) (by (repeat rw [xu_nf (by decide)])) (by (repeat rw [xu_nf (by decide)])) hG
  · exact Lk_put LHb (c := 1) (f := 19) (by decide) hk rfl hH
  · exact Lz_eq (by (repeat rw [xu_nf (by decide)])) (by (repeat rw [xu_nf (by decide)])) hZ
  · exact Lp_eq (by (repeat rw [xu_nf (by decide)])) (by (repeat rw [xu_nf (by decide)])) (by (repeat rw [xu_nf (by decide)])) hP
  · exact Lw_eq (by (repeat rw [xu_nf (by decide)])) (by (repeat rw [xu_nf (by decide)])) hW
theorem inv_group {c t : Nat} {S : xS} {kk : Nat} {A : Int32} (h : Inv c t S) (hk : kk < 8) : Inv (c) t (xu (xu S 35 0 (nI (8 * kk + 3)) A) 21 0 (nI kk) A) := by
  obtain ⟨⟨hB, hN, hK, hS⟩, ⟨hT, hE⟩, ⟨hG, hH⟩, hZ, hP, hW⟩ := h
  refine ⟨⟨?_, ?_, ?_, ?_⟩, ⟨?_, ?_⟩, ⟨?_, ?_⟩, ?_, ?_, ?_⟩
  · exact Bits_eq (by (repeat rw [xu_nf (by decide)])) (by (repeat rw [xu_nf (by decide)])) (by (repeat rw [xu_nf (by decide)])) hB
  · exact Bnd_eq (by (repeat rw [xu_nf (by decide)])) (by (repeat rw [xu_nf (by decide)])) (by (repeat rw [xu_nf (by decide)])) (by (repeat rw [xu_nf (by decide)])) hN
  · exact KWc_eq (by (repeat rw [xu_nf (by decide)])) (by (repeat rw [xu_nf (by decide)])) (by (repeat rw [xu_nf (by decide)])) (by (repeat rw [xu_nf (by decide)])) (by (repeat rw [xu_nf (by decide)])) (by (repeat rw [xu_nf (by decide)])) hK
  · exact Src_eq (by (repeat rw [xu_nf (by decide)])) hS
  · exact Tm_eq (by (repeat rw [xu_nf (by decide)])) (by (repeat rw [xu_nf (by decide)])) hT
  · exact Net_eq (by (repeat rw [xu_nf (by decide)])) (by (repeat rw [xu_nf (by decide)])) (by (repeat rw [xu_nf (by decide)])) (by (repeat rw [xu_nf (by decide)])) (by (repeat rw [xu_nf (by decide)])) (by (repeat rw [xu_nf (by decide)])) hE
  · exact LkG_eq (by (repeat rw [xu_nf (by decide)])) (by (repeat rw [xu_nf (by decide)])) (by (repeat rw [xu_nf (by decide)])) (by (repeat rw [xu_nf (by decide)])) (by (repeat rw [xu_nf (by decide)])) (by (repeat rw [xu_nf (by decide)])) (by (repeat rw [xu_nf (by decide)])) (by (repeat rw [xu_nf (by decide)])) (by (repeat rw [xu_nf (by decide)])) hG
  · exact Lk_put LHb (c := 3) (f := 21) (by decide) hk rfl hH
  · exact Lz_eq (by (repeat rw [xu_nf (by decide)])) (by (repeat rw [xu_nf (by decide)])) hZ
  · exact Lp_eq (by (repeat rw [xu_nf (by decide)])) (by (repeat rw [xu_nf (by decide)])) (by (repeat rw [xu_nf (by decide)])) hP
  · exact Lw_eq (by (repeat rw [xu_nf (by decide)])) (by (repeat rw [xu_nf (by decide)])) hW
theorem inv_stuck {c t : Nat} {S : xS} {kk : Nat} {A : Int32} (h : Inv c t S) (hk : kk < 8) (hA : b01 A) : Inv (c) t (xu (xu S 35 0 (nI (8 * kk + 2)) A) 20 0 (nI kk) A) := by
  obtain ⟨⟨hB, hN, hK, hS⟩, ⟨hT, hE⟩, ⟨hG, hH⟩, hZ, hP, hW⟩ := h
  refine ⟨⟨?_, ?_, ?_, ?_⟩, ⟨?_, ?_⟩, ⟨?_, ?_⟩, ?_, ?_, ?_⟩
  · intro j hj
    obtain ⟨b1, b2, b3⟩ := hB j hj
    refine ⟨?_, ?_, ?_⟩
    · (repeat rw [xu_ne (by decide)])
      exact b1
    · (repeat rw [xu_ne (by decide)])
      exact b2
    · rw [xrow_nI hk hj]
      split
      · exact hA
      · (repeat rw [xu_ne (by decide)])
        exact b3
  · exact Bnd_eq (by (repeat rw [xu_nf (by decide)])) (by (repeat rw [xu_nf (by decide)])) (by (repeat rw [xu_nf (by decide)])) (by (repeat rw [xu_nf (by decide)])) hN
  · exact KWc_eq (by (repeat rw [xu_nf (by decide)])) (by (repeat rw [xu_nf (by decide)])) (by (repeat rw [xu_nf (by decide)])) (by (repeat rw [xu_nf (by decide)])) (by (repeat rw [xu_nf (by decide)])) (by (repeat rw [xu_nf (by decide)])) hK
  · exact Src_eq (by (repeat rw [xu_nf (by decide)])) hS
  · exact Tm_eq (by (repeat rw [xu_nf (by decide)])) (by (repeat rw [xu_nf (by decide)])) hT
  · exact Net_eq (by (repeat rw [xu_nf (by decide)])) (by (repeat rw [xu_nf (by decide)])) (by (repeat rw [xu_nf (by decide)])) (by (repeat rw [xu_nf (by decide)])) (by (repeat rw [xu_nf (by decide)])) (by (repeat rw [xu_nf (by decide)])) hE
  · exact LkG_eq (by (repeat rw [xu_nf (by decide)])) (by (repeat rw [xu_nf (by decide)])) (by (repeat rw [xu_nf (by decide)])) (by (repeat rw [xu_nf (by decide)])) (by (repeat rw [xu_nf (by decide)])) (by (repeat rw [xu_nf (by decide)])) (by (repeat rw [xu_nf (by decide)])) (by (repeat rw [xu_nf (by decide)])) (by (repeat rw [xu_nf (by decide)])) hG
  · exact Lk_put LHb (c := 2) (f := 20) (by decide) hk rfl hH
  · exact Lz_eq (by (repeat rw [xu_nf (by decide)])) (by (repeat rw [xu_nf (by decide)])) hZ
  · exact Lp_eq (by (repeat rw [xu_nf (by decide)])) (by (repeat rw [xu_nf (by decide)])) (by (repeat rw [xu_nf (by decide)])) hP
  · exact Lw_eq (by (repeat rw [xu_nf (by decide)])) (by (repeat rw [xu_nf (by decide)])) hW
theorem inv_times {c t : Nat} {S : xS} {kk : Nat} {A B : Int32} (h : Inv c t S) (hk : kk < 8) : Inv (c) t (xu (xu (xu (xu S 39 0 (1 : Int32) A) 39 0 (2 : Int32) B) 3 0 (nI 9) A) 3 0 (nI 10) B) := by
  obtain ⟨⟨hB, hN, hK, hS⟩, ⟨hT, hE⟩, ⟨hG, hH⟩, hZ, hP, hW⟩ := h
  refine ⟨⟨?_, ?_, ?_, ?_⟩, ⟨?_, ?_⟩, ⟨?_, ?_⟩, ?_, ?_, ?_⟩
  · exact Bits_eq (by (repeat rw [xu_nf (by decide)])) (by (repeat rw [xu_nf (by decide)])) (by (repeat rw [xu_nf (by decide)])) hB
  · exact Bnd_eq (by (repeat rw [xu_nf (by decide)])) (by (repeat rw [xu_nf (by decide)])) (by (repeat rw [xu_nf (by decide)])) (by (repeat rw [xu_nf (by decide)])) hN
  · exact KWc_eq (by (repeat rw [xu_nf (by decide)])) (by (repeat rw [xu_nf (by decide)])) (by (repeat rw [xu_nf (by decide)])) (by (repeat rw [xu_nf (by decide)])) (by (repeat rw [xu_nf (by decide)])) (by (repeat rw [xu_nf (by decide)])) hK
  · exact Src_eq (by (repeat rw [xu_nf (by decide)])) hS
  · refine Tm_eq (by (repeat rw [xu_nf (by decide)])) ?_ hT
    rw [xu_ni (by decide), xu_ni (by decide), xu_ne (by decide), xu_ne (by decide)]
  · exact Net_eq (by (repeat rw [xu_nf (by decide)])) (by (repeat rw [xu_nf (by decide)])) (by (repeat rw [xu_nf (by decide)])) (by (repeat rw [xu_nf (by decide)])) (by (repeat rw [xu_nf (by decide)])) (by (repeat rw [xu_nf (by decide)])) hE
  · exact LkG_eq (by (repeat rw [xu_nf (by decide)])) (by (repeat rw [xu_nf (by decide)])) (by (repeat rw [xu_nf (by decide)])) (by (repeat rw [xu_nf (by decide)])) (by (repeat rw [xu_nf (by decide)])) (by (repeat rw [xu_nf (by decide)])) (by (repeat rw [xu_nf (by decide)])) (by (repeat rw [xu_nf (by decide)])) (by (repeat rw [xu_nf (by decide)])) hG
  · exact LkH_eq (by (repeat rw [xu_nf (by decide)])) (by (repeat rw [xu_nf (by decide)])) (by (repeat rw [xu_nf (by decide)])) (by (repeat rw [xu_nf (by decide)])) (by (repeat rw [xu_nf (by decide)])) hH
  · exact Lz_eq (by (repeat rw [xu_nf (by decide)])) (by (repeat rw [xu_nf (by decide)])) hZ
  · refine ⟨?_, ?_, ?_⟩
    · rw [xu_ne (by decide), xu_ne (by decide), xu_ni (by decide), xu_ni (by decide), xu_ne (by decide), xu_ne (by decide), xu_ne (by decide), xu_ne (by decide)]; exact hP.1
    · rw [xu_ne (by decide), xu_ne (by decide), xu_ni (by decide), xu_same, xu_ni (by decide), xu_same]
    · rw [xu_ne (by decide), xu_ne (by decide), xu_same, xu_same]
  · exact Lw_eq (by (repeat rw [xu_nf (by decide)])) (by (repeat rw [xu_nf (by decide)])) hW
